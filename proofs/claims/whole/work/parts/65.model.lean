/-! the model: amounts, meanings, phrases -/
def nwB (T : Nat → Nat → Int32) (nw : Nat) (wz : Nat → Nat → Int32) (i : Nat) : Bool := match tokW T nw i with
  | none => false
  | some j => decide (¬ wz j 2 &&& 32 = 0)
theorem inB_iff {v lo hi : Int32} : inB v lo hi = true ↔ ¬ v < lo ∧ ¬ hi < v := by simp [inB]
theorem sumA_in {sr sp sl v : Int32} (h1 : ¬ sl = 0) (h2 : ¬ sr < 0) : sumA sr sp sl v = if v = 100 ∧ inB sp 1 9 = true then (true, sr, 100 * sp, sl + 1) else if v = 1000 ∧ inB sp 1 999 = true ∧ sr = 0 then (true, 1000 * sp, 0, sl + 1)
    else if (inB v 1 99 = true ∧ (0 < sp ∧ sp - sp / 100 * 100 = 0 ∨ sp = 0 ∧ 0 < sr)) ∨ (inB v 1 9 = true ∧ ¬ sp - sp / 100 * 100 < 20 ∧ (sp - sp / 100 * 100) - (sp - sp / 100 * 100) / 10 * 10 = 0) then (true, sr, sp + v, sl + 1) else (false, sr, sp, sl) := by
  have e1 : fbh sr sp v = true ↔ (inB v 1 99 = true ∧ (0 < sp ∧ sp - sp / 100 * 100 = 0 ∨ sp = 0 ∧ 0 < sr)) := by
    have hsr : (¬ sr = 0) ↔ 0 < sr := by
      rw [Int32.lt_iff_toInt_lt, ← Int32.toInt_inj]
      rw [Int32.lt_iff_toInt_lt] at h2
      have : (0 : Int32).toInt = 0 := rfl
      omega
    by_cases hp : sp ≤ 0
    · have hp' : ¬ 0 < sp := Int32.not_lt.mpr hp
      simp [fbh, inB, hp, hp', hsr]
    · have hp' : 0 < sp := Int32.not_le.mp hp
      have hp2 : ¬ sp = 0 := fun q => by rw [q] at hp'; exact absurd hp' (by decide)
      simp [fbh, inB, hp, hp', hp2]
  have e2 : fbt sp v = true ↔ (inB v 1 9 = true ∧ ¬ sp - sp / 100 * 100 < 20 ∧ (sp - sp / 100 * 100) - (sp - sp / 100 * 100) / 10 * 10 = 0) := by
    simp [fbt, inB, and_assoc]
  unfold sumA
  rw [if_neg h1]
  simp only [e1, e2, inB_iff, and_assoc]
theorem mbF_m1 {mt mw mf : Nat → Int32} {fu : Int32} : ∀ k, (∀ q, q < k → ¬ mw q = -1) → mbF mt mw mf fu (-1) k = 0
  | 0, _ => rfl
  | k + 1, h => by rw [mbF, if_neg (fun q => h k (Nat.lt_succ_self k) q.1)]; exact mbF_m1 k (fun q hq => h q (by omega))
theorem i_or3 (a b c : Int32) : (a ||| b) ||| c = a ||| (b ||| c) := Int32.or_assoc a b c
theorem i_oc (a b : Int32) : a ||| b = b ||| a := Int32.or_comm a b
theorem mb_s {mt mw mf : Nat → Int32} {fu w pl b : Int32} {k : Nat} (hh : mf k = -1 ∨ upB fu (mf k) = true) (hw : mw k = w ∨ mw k = pl) : (b ||| (mbF mt mw mf fu w k ||| mbF mt mw mf fu pl k)) ||| ((1 : Int32) <<< (mt k &&& 31)) = b ||| (mbF mt mw mf fu w (k + 1) ||| mbF mt mw mf fu pl (k + 1)) := by
  rw [mbF, mbF]
  generalize (1 : Int32) <<< (mt k &&& 31) = t
  generalize mbF mt mw mf fu w k = x
  generalize mbF mt mw mf fu pl k = y
  rw [i_or3]
  congr 1
  by_cases h1 : mw k = w <;> by_cases h2 : mw k = pl
  · rw [if_pos ⟨h1, hh⟩, if_pos ⟨h2, hh⟩, i_or3, i_or3, ← i_or3 t y t, i_oc t y, i_or3 y t t, Int32.or_self]
  · rw [if_pos ⟨h1, hh⟩, if_neg (fun q => h2 q.1), i_or3, i_or3, i_oc y t]
  · rw [if_neg (fun q => h1 q.1), if_pos ⟨h2, hh⟩, i_or3]
  · exact absurd hw (by simp [h1, h2])
theorem mb_n {mt mw mf : Nat → Int32} {fu w pl : Int32} {k : Nat} (h : ¬ ((mf k = -1 ∨ upB fu (mf k) = true) ∧ (mw k = w ∨ mw k = pl))) : mbF mt mw mf fu w k ||| mbF mt mw mf fu pl k = mbF mt mw mf fu w (k + 1) ||| mbF mt mw mf fu pl (k + 1) := by
  rw [mbF, mbF, if_neg (fun q => h ⟨q.2, Or.inl q.1⟩), if_neg (fun q => h ⟨q.2, Or.inr q.1⟩)]
/-- meanings: a word's number, a flag or none -/
def RM (mw mf : Nat → Int32) (mm : Nat) : Prop := ∀ k, k < mm → ¬ mw k = -1 ∧ (mf k = -1 ∨ ∃ g, g < 8 ∧ mf k = nI g)
theorem hold_m {mf : Nat → Int32} {fq k : Nat} (hfq : fq < 256) (hk : mf k = -1 ∨ ∃ g, g < 8 ∧ mf k = nI g) : (mf k < 0 → mf k = -1) ∧ (¬ mf k < 0 → ((nI fq >>> (mf k &&& 31)) &&& 1 = 1 ↔ (mf k = -1 ∨ upB (nI fq) (mf k) = true))) := by
  rcases hk with h | ⟨g, hg, h⟩
  · rw [h]; exact ⟨fun _ => rfl, fun q => absurd (by decide) q⟩
  · rw [h]
    refine ⟨fun q => absurd q (nI_pos (by omega)), fun _ => ?_⟩
    have := up_m fq hfq g hg
    rw [← this, bI_1]
    have hne : ¬ nI g = -1 := oI_m1 (j := g) (by omega)
    simp [hne]
theorem tm_eq {T wz : Nat → Nat → Int32} {nw mm i j : Nat} {mt mw mf : Nat → Int32} {fu : Int32} (h : tokW T nw i = some j) (hm : ∀ q, q < mm → ¬ mw q = -1) : tmI T nw wz mt mw mf fu mm i = (if wz j 2 &&& 16 = 0 then 0 else wz j 5) ||| (mbF mt mw mf fu (T 4 i) mm ||| mbF mt mw mf fu (wz j 4) mm) := by
  rw [tmI, h]
  simp only []
  rw [i_oc]
  congr 1
  by_cases hp : wz j 4 = -1
  · rw [if_pos hp, hp, mbF_m1 mm hm, Int32.or_zero]
  · rw [if_neg hp]
theorem m1_and (b : Int32) : (-1 : Int32) &&& b = b := by
  apply Int32.toBitVec_inj.mp
  show (BitVec.allOnes 32) &&& b.toBitVec = b.toBitVec
  exact BitVec.allOnes_and

set_option maxHeartbeats 1000000 in
set_option maxRecDepth 100000 in
theorem c_X11_isNumberWord {l : Launch} {D : va_G} {cI cJ cW : ClassId} {m : Nat} {a : Nat → Nat} {ct dn nw nj n tn tc mm : Nat} {τ : TS} {fu am pb : Int32} {F : Nat → Nat → Int32} {T : Nat → Nat → Int32} {xn : Nat} {wz : Nat → Nat → Int32} {wn : Nat → Nat} {wt : Nat → Nat → Int32} {i : Nat} (htn : tn ≤ 24) (hnw : nw ≤ 40) (hrt : RT F T tn nw xn) (hrw : RW F nw wz wn wt) (hi : i < tn) : RO l yX11_isNumberWord wsX11_isNumberWord { frames := 1, cells := 0, slots := 0, locals := 22 } D (ty3 cI cJ cW) [.ref m, .int (nI i)] [(m, .inr (11, [.int (nI ct), .ref (a 1), .ref (a 2), .int (nI dn), .int (nI nw), .int (nI nj), .ref (a 6), .ref (a 7), .ref (a 8), .ref (a 9), .ref (a 10), .ref (a 11), .ref (a 12), .ref (a 13), .ref (a 14), .ref (a 15), .int (nI n), .int (nI tn), .ref (a 18), .ref (a 19), .ref (a 20), .ref (a 21), .ref (a 22), .ref (a 23), .ref (a 24), .ref (a 25), .int (nI τ.1), .int (τ.2.1), .ref (a 28), .int (nI tc), .int (nI mm), .ref (a 31), .ref (a 32), .ref (a 33), .int (fu), .int (am), .int (pb)])), ((a 9), .inl (cI, 40, .inl (F 9))), ((a 18), .inl (cI, 24, .inl (F 18))), ((a 21), .inl (cI, 24, .inl (F 21)))] (.int (bI (nwB T nw wz i))) := by
  refine ro_of (cc := cX11_isNumberWord) (maxL := 2) (ret := (some .boolean)) (by decide) rfl (Nat.le_of_ble_eq_true rfl) ?_
  intro pr en ss mi below meth cd X hP hK ls hl
  obtain ⟨hx, hb, hml, hown, hts, hr, hlocks⟩ := id X
  have fl_46 := hts (.fieldLink RX11 46 "WordTablesModel" "sort" "[I") (by decide +kernel)
  have fl_55 := hts (.fieldLink RX11 55 "WordTablesModel" "number" "[I") (by decide +kernel)
  have in_X11 : ∀ w ∈ wsX110, w ∈ wsX11_isNumberWord := by decide +kernel
  have hl : lv_has ls 2 [(0, .ref m), (1, .int (nI i))] := hl
  refine lv_aload_n hx hb dX11_isNumberWord_0 rfl (lv_at hl 0 rfl) ?_
  refine va_get (D := D) (ci := 11) (C := RX11) (T := TX11) (N := 37) hx hb hts in_X11 hown hK hP 0 rfl rfl 18 (by decide) fl_46 (fun _ h9 => h9) rfl dX11_isNumberWord_1 ?_
  refine lv_iload_n hx hb dX11_isNumberWord_4 rfl (lv_at hl 1 rfl) ?_
  refine ald_n hx hb hK hP 2 0 rfl rfl (show i < 24 by omega) (by first | decide | omega) dX11_isNumberWord_5 ?_
  refine topi_eq (hrt i hi).1 ?_
  refine lv_if_ne (tgt := 27) hx hb dX11_isNumberWord_6 (by decide) (fun c_6 => ?_) (fun c_6 => ?_)
  · refine lv_iconst (v := 0) hx hb dX11_isNumberWord_27 (by decide) ?_
    exact ro_zret X (by rw [nwB, RT_n c_6]; rfl) dX11_isNumberWord_28
  · obtain ⟨j, hj, e4, etw⟩ := RT_w hrt hi hnw c_6
    have hkd : kdB (F 9 j) 5 = decide (¬ wz j 2 &&& 32 = 0) := by obtain ⟨q, hq, e⟩ := (hrw j hj).2.2.2.2.2.2.2.2; rw [(hrw j hj).2.2.2.2.1, e]; exact kd5 q hq
    refine lv_aload_n hx hb dX11_isNumberWord_9 rfl (lv_at hl 0 rfl) ?_
    refine lv_aload_n hx hb dX11_isNumberWord_10 rfl (lv_at hl 0 rfl) ?_
    refine va_get (D := D) (ci := 11) (C := RX11) (T := TX11) (N := 37) hx hb hts in_X11 hown hK hP 0 rfl rfl 21 (by decide) fl_55 (fun _ h9 => h9) rfl dX11_isNumberWord_11 ?_
    refine lv_iload_n hx hb dX11_isNumberWord_14 rfl (lv_at hl 1 rfl) ?_
    refine ald_n hx hb hK hP 3 0 rfl rfl (show i < 24 by omega) (by first | decide | omega) dX11_isNumberWord_15 ?_
    refine topi_eq ((hrt i hi).2.2.2.1.trans e4) ?_
    refine lv_iconst (v := 5) hx hb dX11_isNumberWord_16 (by decide) ?_
    refine ro_V (n := 2) X hK (c_X11_isKind (F := F) (show j < 40 by omega)) gX11_isNumberWord_X11_isKind rfl (by decide +kernel) ⟨rfl, rfl⟩ ⟨Nat.le_of_ble_eq_true rfl, Nat.le_of_ble_eq_true rfl⟩ (hP.sub [0, 1] rfl) (va_recv hK hP (ci := 11) (q0 := 0) rfl rfl) rfl hl.1 rfl (Nat.le_of_ble_eq_true rfl) dX11_isNumberWord_17 ⟨Nat.zero_le _, Nat.zero_le _⟩ ?_
    refine lv_if_eq (tgt := 27) hx hb dX11_isNumberWord_20 (by decide) (fun c_20 => ?_) (fun c_20 => ?_)
    · replace c_20 := bI_0.mp c_20
      refine lv_iconst (v := 0) hx hb dX11_isNumberWord_27 (by decide) ?_
      exact ro_zret X (by rw [hkd] at c_20; rw [nwB, etw]; simp only []; rw [c_20]; rfl) dX11_isNumberWord_28
    · replace c_20 := bI_n0.mp c_20
      refine lv_iconst (v := 1) hx hb dX11_isNumberWord_23 (by decide) ?_
      refine lv_goto (tgt := 28) hx hb dX11_isNumberWord_24 (by decide) ?_
      exact ro_zret X (by rw [hkd] at c_20; rw [nwB, etw]; simp only []; rw [c_20]; rfl) dX11_isNumberWord_28

theorem nw_some {F T : Nat → Nat → Int32} {tn nw xn i : Nat} {wz : Nat → Nat → Int32} (hrt : RT F T tn nw xn) (hnw : nw ≤ 40) (hi : i < tn) (h : nwB T nw wz i = true) : ∃ j, j < nw ∧ T 4 i = nI j ∧ tokW T nw i = some j ∧ ¬ wz j 2 &&& 32 = 0 := by
  by_cases h0 : T 1 i = 0
  · obtain ⟨j, hj, e4, etw⟩ := RT_w hrt hi hnw h0
    rw [nwB, etw] at h
    exact ⟨j, hj, e4, etw, of_decide_eq_true h⟩
  · rw [nwB, RT_n h0] at h; cases h
theorem nw_none {T : Nat → Nat → Int32} {tn nw i : Nat} {wz : Nat → Nat → Int32} {σ : Int32 × Int32 × Int32} (hi : i < tn) (h : nwB T nw wz i = false) : smF T tn nw wz (tn - i) i σ = σ := by
  cases hw : tokW T nw i with
  | none => exact smF_none hi hw
  | some j => rw [nwB, hw] at h; exact smF_nk hi hw (Classical.not_not.mp (of_decide_eq_false h))

theorem h1000 {p : Int32} (h : inB p 1 999 = true) : ¬ 1000 * p < 0 := by
  obtain ⟨j, h1, h2, rfl⟩ := inB_of 1 999 h (by decide) (by decide)
  rw [show (1000 : Int32) = nI 1000 from rfl, pk_mul]; exact nI_pos (by omega)

set_option maxHeartbeats 1000000 in
set_option maxRecDepth 100000 in
theorem c_X11_amountAt {l : Launch} {D : va_G} {cI cJ cW : ClassId} {sz : Nat} {m : Nat} {a : Nat → Nat} {ct dn nw nj n tn tc mm : Nat} {τ : TS} {fu am pb : Int32} {F : Nat → Nat → Int32} {T : Nat → Nat → Int32} {xn : Nat} {wz : Nat → Nat → Int32} {wn : Nat → Nat} {wt : Nat → Nat → Int32} {i : Nat} (htn : tn ≤ 24) (hnw : nw ≤ 40) (hrt : RT F T tn nw xn) (hrw : RW F nw wz wn wt) (hi : i < tn) : MU l yX11_amountAt wsX11_amountAt { frames := 2, cells := 0, slots := 0, locals := 43 } D (ty3 cI cJ cW) [.ref m, .int (nI i)] [(m, .inr (11, [.int (nI ct), .ref (a 1), .ref (a 2), .int (nI dn), .int (nI nw), .int (nI nj), .ref (a 6), .ref (a 7), .ref (a 8), .ref (a 9), .ref (a 10), .ref (a 11), .ref (a 12), .ref (a 13), .ref (a 14), .ref (a 15), .int (nI n), .int (nI tn), .ref (a 18), .ref (a 19), .ref (a 20), .ref (a 21), .ref (a 22), .ref (a 23), .ref (a 24), .ref (a 25), .int (nI τ.1), .int (τ.2.1), .ref (a 28), .int (nI tc), .int (nI mm), .ref (a 31), .ref (a 32), .ref (a 33), .int (fu), .int (am), .int (pb)])), ((a 9), .inl (cI, 40, .inl (F 9))), ((a 10), .inl (cI, 40, .inl (F 10))), ((a 18), .inl (cI, 24, .inl (F 18))), ((a 21), .inl (cI, 24, .inl (F 21)))] sz (some (.int (smA T tn nw wz i).2.2)) [(m, .inr (11, [.int (nI ct), .ref (a 1), .ref (a 2), .int (nI dn), .int (nI nw), .int (nI nj), .ref (a 6), .ref (a 7), .ref (a 8), .ref (a 9), .ref (a 10), .ref (a 11), .ref (a 12), .ref (a 13), .ref (a 14), .ref (a 15), .int (nI n), .int (nI tn), .ref (a 18), .ref (a 19), .ref (a 20), .ref (a 21), .ref (a 22), .ref (a 23), .ref (a 24), .ref (a 25), .int (nI τ.1), .int (τ.2.1), .ref (a 28), .int (nI tc), .int (nI mm), .ref (a 31), .ref (a 32), .ref (a 33), .int (fu), .int ((smA T tn nw wz i).1 + (smA T tn nw wz i).2.1), .int (pb)])), ((a 9), .inl (cI, 40, .inl (F 9))), ((a 10), .inl (cI, 40, .inl (F 10))), ((a 18), .inl (cI, 24, .inl (F 18))), ((a 21), .inl (cI, 24, .inl (F 21)))] := by
  refine mu_of (cc := cX11_amountAt) (maxL := 8) (ret := (some .int)) (by decide) rfl (Nat.le_of_ble_eq_true rfl) ?_
  intro pr en ss mi below meth cd X hK A hA hP hD hS ls hl
  obtain ⟨hx, hb, hml, hown, hts, hr, hlocks⟩ := id X
  have fl_170 := hts (.fieldLink RX11 170 "WordTablesModel" "tokens" "I") (by decide +kernel)
  have fl_176 := hts (.fieldLink RX11 176 "WordTablesModel" "amountIs" "I") (by decide +kernel)
  have fl_28 := hts (.fieldLink RX11 28 "WordTablesModel" "value" "[I") (by decide +kernel)
  have fl_46 := hts (.fieldLink RX11 46 "WordTablesModel" "sort" "[I") (by decide +kernel)
  have fl_55 := hts (.fieldLink RX11 55 "WordTablesModel" "number" "[I") (by decide +kernel)
  have in_X11 : ∀ w ∈ wsX110, w ∈ wsX11_amountAt := by decide +kernel
  have hl : lv_has ls 8 [(0, .ref m), (1, .int (nI i))] := hl
  refine lv_aload_n hx hb dX11_amountAt_0 rfl (lv_at hl 0 rfl) ?_
  refine lv_iconst (v := 0) hx hb dX11_amountAt_1 (by decide) ?_
  refine va_put (D := D) (ci := 11) (ty := .int) (C := RX11) (T := TX11) (N := 37) hx hb hts in_X11 tyX11 tyX11_ok nmX11 hown hK hP hD hS 0 rfl rfl 35 (by decide) fl_176 (fun _ h9 => h9) rfl (by decide +kernel) rfl rfl (Nat.le_of_ble_eq_true rfl) dX11_amountAt_2 (fun H locs hP hD hS => ?_)
  have hP : va_P D vwCl [(m, .inr (11, [_, .ref (a 1), .ref (a 2), _, _, _, .ref (a 6), .ref (a 7), .ref (a 8), .ref (a 9), .ref (a 10), .ref (a 11), .ref (a 12), .ref (a 13), .ref (a 14), .ref (a 15), _, _, .ref (a 18), .ref (a 19), .ref (a 20), .ref (a 21), .ref (a 22), .ref (a 23), .ref (a 24), .ref (a 25), _, _, .ref (a 28), _, _, .ref (a 31), .ref (a 32), .ref (a 33), _, _, _])), ((a 9), .inl (cI, 40, .inl _)), ((a 10), .inl (cI, 40, .inl _)), ((a 18), .inl (cI, 24, .inl _)), ((a 21), .inl (cI, 24, .inl _))] H := hP
  have hD : va_D A [(m, .inr (11, [_, .ref (a 1), .ref (a 2), _, _, _, .ref (a 6), .ref (a 7), .ref (a 8), .ref (a 9), .ref (a 10), .ref (a 11), .ref (a 12), .ref (a 13), .ref (a 14), .ref (a 15), _, _, .ref (a 18), .ref (a 19), .ref (a 20), .ref (a 21), .ref (a 22), .ref (a 23), .ref (a 24), .ref (a 25), _, _, .ref (a 28), _, _, .ref (a 31), .ref (a 32), .ref (a 33), _, _, _])), ((a 9), .inl (cI, 40, .inl _)), ((a 10), .inl (cI, 40, .inl _)), ((a 18), .inl (cI, 24, .inl _)), ((a 21), .inl (cI, 24, .inl _))] := hD
  refine lv_aload_n hx hb dX11_amountAt_5 rfl (lv_at hl 0 rfl) ?_
  refine va_get (D := D) (ci := 11) (C := RX11) (T := TX11) (N := 37) hx hb hts in_X11 hown hK hP 0 rfl rfl 18 (by decide) fl_46 (fun _ h9 => h9) rfl dX11_amountAt_6 ?_
  refine lv_iload_n hx hb dX11_amountAt_9 rfl (lv_at hl 1 rfl) ?_
  refine ald_n hx hb hK hP 3 0 rfl rfl (show i < 24 by omega) (by first | decide | omega) dX11_amountAt_10 ?_
  refine topi_eq (hrt i hi).1 ?_
  refine lv_iconst (v := 2) hx hb dX11_amountAt_11 (by decide) ?_
  refine lv_icmp_ne (tgt := 27) hx hb dX11_amountAt_12 (by decide) (fun c_12 => ?_) (fun c_12 => ?_)
  · refine lv_aload_n hx hb dX11_amountAt_27 rfl (lv_at hl 0 rfl) ?_
    refine lv_iload_n hx hb dX11_amountAt_28 rfl (lv_at hl 1 rfl) ?_
    refine ro_V (n := 1) X hK (c_X11_isNumberWord htn hnw hrt hrw hi) gX11_amountAt_X11_isNumberWord rfl (by decide +kernel) ⟨rfl, rfl⟩ ⟨Nat.le_of_ble_eq_true rfl, Nat.le_of_ble_eq_true rfl⟩ (hP.sub [0, 1, 3, 4] rfl) (va_recv hK hP (ci := 11) (q0 := 0) rfl rfl) rfl hl.1 rfl (Nat.le_of_ble_eq_true rfl) dX11_amountAt_29 ⟨Nat.zero_le _, Nat.zero_le _⟩ ?_
    refine lv_if_ne (tgt := 37) hx hb dX11_amountAt_32 (by decide) (fun c_32 => ?_) (fun c_32 => ?_)
    · replace c_32 := bI_n0.mp c_32
      obtain ⟨j0, hj0, e40, etw0, hnk0⟩ := nw_some hrt hnw hi c_32
      refine lv_aload_n hx hb dX11_amountAt_37 rfl (lv_at hl 0 rfl) ?_
      refine va_get (D := D) (ci := 11) (C := RX11) (T := TX11) (N := 37) hx hb hts in_X11 hown hK hP 0 rfl rfl 10 (by decide) fl_28 (fun _ h9 => h9) rfl dX11_amountAt_38 ?_
      refine lv_aload_n hx hb dX11_amountAt_41 rfl (lv_at hl 0 rfl) ?_
      refine va_get (D := D) (ci := 11) (C := RX11) (T := TX11) (N := 37) hx hb hts in_X11 hown hK hP 0 rfl rfl 21 (by decide) fl_55 (fun _ h9 => h9) rfl dX11_amountAt_42 ?_
      refine lv_iload_n hx hb dX11_amountAt_45 rfl (lv_at hl 1 rfl) ?_
      refine ald_n hx hb hK hP 4 0 rfl rfl (show i < 24 by omega) (by first | decide | omega) dX11_amountAt_46 ?_
      refine topi_eq ((hrt i hi).2.2.2.1.trans e40) ?_
      refine ald_n hx hb hK hP 2 0 rfl rfl (show j0 < 40 by omega) (by first | decide | omega) dX11_amountAt_47 ?_
      refine topi_eq (hrw j0 hj0).2.2.2.2.2.1 ?_
      refine lv_istore_n (lv' := [(2, _), (0, _), (1, _)]) hx hb dX11_amountAt_48 rfl hl (by decide) rfl (fun ls hl => ?_)
      refine lv_iconst (v := 0) hx hb dX11_amountAt_49 (by decide) ?_
      refine lv_istore_n (lv' := [(3, _), (2, _), (0, _), (1, _)]) hx hb dX11_amountAt_50 rfl hl (by decide) rfl (fun ls hl => ?_)
      refine lv_iload_n hx hb dX11_amountAt_51 rfl (lv_at hl 3 rfl) ?_
      refine lv_iconst (v := 1) hx hb dX11_amountAt_52 (by decide) ?_
      refine lv_iadd hx hb dX11_amountAt_53 ?_
      refine topi_eq (nI_1 i) ?_
      refine lv_istore (lv' := [(4, _), (3, _), (2, _), (0, _), (1, _)]) hx hb dX11_amountAt_54 hl (by decide) rfl (fun ls hl => ?_)
      refine lv_iconst (v := 1) hx hb dX11_amountAt_56 (by decide) ?_
      refine lv_istore (lv' := [(5, _), (4, _), (3, _), (2, _), (0, _), (1, _)]) hx hb dX11_amountAt_57 hl (by decide) rfl (fun ls hl => ?_)
      have loop_59 : ∀ (fuel : Nat) (k : Nat) (more : Bool) (rest part : Int32), (if more = true then tn + 1 - k else 0) < fuel → i < k → k ≤ tn → ¬ rest < 0 → ((if more = true then smF T tn nw wz (tn - k) k (rest, part, nI (k - i)) else (rest, part, nI (k - i))) = smF T tn nw wz (tn - i) i (0, 0, 0)) → ∀ (H : Heap) (locs : List Loc), va_P D vwCl [(m, .inr (11, [.int (nI ct), .ref (a 1), .ref (a 2), .int (nI dn), .int (nI nw), .int (nI nj), .ref (a 6), .ref (a 7), .ref (a 8), .ref (a 9), .ref (a 10), .ref (a 11), .ref (a 12), .ref (a 13), .ref (a 14), .ref (a 15), .int (nI n), .int (nI tn), .ref (a 18), .ref (a 19), .ref (a 20), .ref (a 21), .ref (a 22), .ref (a 23), .ref (a 24), .ref (a 25), .int (nI τ.1), .int (τ.2.1), .ref (a 28), .int (nI tc), .int (nI mm), .ref (a 31), .ref (a 32), .ref (a 33), .int (fu), .int (0), .int (pb)])), ((a 9), .inl (cI, 40, .inl (F 9))), ((a 10), .inl (cI, 40, .inl (F 10))), ((a 18), .inl (cI, 24, .inl (F 18))), ((a 21), .inl (cI, 24, .inl (F 21)))] H → va_D A [(m, .inr (11, [.int (nI ct), .ref (a 1), .ref (a 2), .int (nI dn), .int (nI nw), .int (nI nj), .ref (a 6), .ref (a 7), .ref (a 8), .ref (a 9), .ref (a 10), .ref (a 11), .ref (a 12), .ref (a 13), .ref (a 14), .ref (a 15), .int (nI n), .int (nI tn), .ref (a 18), .ref (a 19), .ref (a 20), .ref (a 21), .ref (a 22), .ref (a 23), .ref (a 24), .ref (a 25), .int (nI τ.1), .int (τ.2.1), .ref (a 28), .int (nI tc), .int (nI mm), .ref (a 31), .ref (a 32), .ref (a 33), .int (fu), .int (0), .int (pb)])), ((a 9), .inl (cI, 40, .inl (F 9))), ((a 10), .inl (cI, 40, .inl (F 10))), ((a 18), .inl (cI, 24, .inl (F 18))), ((a 21), .inl (cI, 24, .inl (F 21)))] → va_S A ss.heap H locs → ∀ ls : Array Slot, lv_has ls 8 [(0, .ref m), (1, .int (nI i)), (2, .int part), (3, .int rest), (4, .int (nI k)), (5, .int (bI more))] → W pr l en { frames := 2, cells := 0, slots := 0, locals := 43 } ss mi ([.ref m, .int (nI i)] : List Value).toArray below meth cd H locs 0 0 (MQ below (mQ (some (.int (smA T tn nw wz i).2.2)) D [(m, .inr (11, [.int (nI ct), .ref (a 1), .ref (a 2), .int (nI dn), .int (nI nw), .int (nI nj), .ref (a 6), .ref (a 7), .ref (a 8), .ref (a 9), .ref (a 10), .ref (a 11), .ref (a 12), .ref (a 13), .ref (a 14), .ref (a 15), .int (nI n), .int (nI tn), .ref (a 18), .ref (a 19), .ref (a 20), .ref (a 21), .ref (a 22), .ref (a 23), .ref (a 24), .ref (a 25), .int (nI τ.1), .int (τ.2.1), .ref (a 28), .int (nI tc), .int (nI mm), .ref (a 31), .ref (a 32), .ref (a 33), .int (fu), .int ((smA T tn nw wz i).1 + (smA T tn nw wz i).2.1), .int (pb)])), ((a 9), .inl (cI, 40, .inl (F 9))), ((a 10), .inl (cI, 40, .inl (F 10))), ((a 18), .inl (cI, 24, .inl (F 18))), ((a 21), .inl (cI, 24, .inl (F 21)))] A) ([.ref m, .int (nI i)] : List Value).toArray ss 0 0 A) (F0 mi 59 ls []) := by
        intro fuel
        induction fuel with
        | zero => intro k more rest part hm; exact absurd hm (Nat.not_lt_zero _)
        | succ fuel ih =>
          intro k more rest part hm hik hkt hrest hr H locs hP hD hS ls hl
          refine lv_iload hx hb dX11_amountAt_59 (lv_at hl 5 rfl) ?_
          refine lv_if_eq (tgt := 244) hx hb dX11_amountAt_61 (by decide) (fun c_61 => ?_) (fun c_61 => ?_)
          · replace c_61 := bI_0.mp c_61
            have hfin : (rest, part, nI (k - i)) = smF T tn nw wz (tn - i) i (0, 0, 0) := by
              first
              | (rw [← hr, if_neg (by rw [c_61]; decide)]; done)
              | (rw [← hr, if_pos rfl, show tn - k = 0 by have := leL (a := tn) (b := k) c_70; omega]; rfl)
              | (have hltx : k < tn := lt_nge c_70 hkt (by omega); rw [← hr, if_pos rfl, nw_none hltx c_79])
            have ht : smA T tn nw wz i = (rest, part, nI (k - i)) := by rw [smA, if_neg c_12, hfin]
            refine lv_aload_n hx hb dX11_amountAt_244 rfl (lv_at hl 0 rfl) ?_
            refine lv_iload_n hx hb dX11_amountAt_245 rfl (lv_at hl 3 rfl) ?_
            refine lv_iload_n hx hb dX11_amountAt_246 rfl (lv_at hl 2 rfl) ?_
            refine lv_iadd hx hb dX11_amountAt_247 ?_
            refine va_put (D := D) (ci := 11) (ty := .int) (C := RX11) (T := TX11) (N := 37) hx hb hts in_X11 tyX11 tyX11_ok nmX11 hown hK hP hD hS 0 rfl rfl 35 (by decide) fl_176 (fun _ h9 => h9) rfl (by decide +kernel) rfl rfl (Nat.le_of_ble_eq_true rfl) dX11_amountAt_248 (fun H locs hP hD hS => ?_)
            have hP : va_P D vwCl [(m, .inr (11, [_, .ref (a 1), .ref (a 2), _, _, _, .ref (a 6), .ref (a 7), .ref (a 8), .ref (a 9), .ref (a 10), .ref (a 11), .ref (a 12), .ref (a 13), .ref (a 14), .ref (a 15), _, _, .ref (a 18), .ref (a 19), .ref (a 20), .ref (a 21), .ref (a 22), .ref (a 23), .ref (a 24), .ref (a 25), _, _, .ref (a 28), _, _, .ref (a 31), .ref (a 32), .ref (a 33), _, _, _])), ((a 9), .inl (cI, 40, .inl _)), ((a 10), .inl (cI, 40, .inl _)), ((a 18), .inl (cI, 24, .inl _)), ((a 21), .inl (cI, 24, .inl _))] H := hP
            have hD : va_D A [(m, .inr (11, [_, .ref (a 1), .ref (a 2), _, _, _, .ref (a 6), .ref (a 7), .ref (a 8), .ref (a 9), .ref (a 10), .ref (a 11), .ref (a 12), .ref (a 13), .ref (a 14), .ref (a 15), _, _, .ref (a 18), .ref (a 19), .ref (a 20), .ref (a 21), .ref (a 22), .ref (a 23), .ref (a 24), .ref (a 25), _, _, .ref (a 28), _, _, .ref (a 31), .ref (a 32), .ref (a 33), _, _, _])), ((a 9), .inl (cI, 40, .inl _)), ((a 10), .inl (cI, 40, .inl _)), ((a 18), .inl (cI, 24, .inl _)), ((a 21), .inl (cI, 24, .inl _))] := hD
            refine lv_iload hx hb dX11_amountAt_251 (lv_at hl 4 rfl) ?_
            refine lv_iload_n hx hb dX11_amountAt_253 rfl (lv_at hl 1 rfl) ?_
            refine lv_isub hx hb dX11_amountAt_254 ?_
            refine topi_eq (nI_sub1 (by omega)) ?_
            exact mu_iret X hP hS (by rw [ht]) (by rw [ht]) dX11_amountAt_255
          · replace c_61 := bI_n0.mp c_61
            subst c_61
            refine lv_iload hx hb dX11_amountAt_64 (lv_at hl 4 rfl) ?_
            refine lv_aload_n hx hb dX11_amountAt_66 rfl (lv_at hl 0 rfl) ?_
            refine va_get (D := D) (ci := 11) (C := RX11) (T := TX11) (N := 37) hx hb hts in_X11 hown hK hP 0 rfl rfl 17 (by decide) fl_170 (fun _ h9 => h9) rfl dX11_amountAt_67 ?_
            refine lv_icmp_ge (tgt := 244) hx hb dX11_amountAt_70 (by decide) (fun c_70 => ?_) (fun c_70 => ?_)
            · have hfin : (rest, part, nI (k - i)) = smF T tn nw wz (tn - i) i (0, 0, 0) := by
                first
                | (rw [← hr, if_neg (by rw [c_61]; decide)]; done)
                | (rw [← hr, if_pos rfl, show tn - k = 0 by have := leL (a := tn) (b := k) c_70; omega]; rfl)
                | (have hltx : k < tn := lt_nge c_70 hkt (by omega); rw [← hr, if_pos rfl, nw_none hltx c_79])
              have ht : smA T tn nw wz i = (rest, part, nI (k - i)) := by rw [smA, if_neg c_12, hfin]
              refine lv_aload_n hx hb dX11_amountAt_244 rfl (lv_at hl 0 rfl) ?_
              refine lv_iload_n hx hb dX11_amountAt_245 rfl (lv_at hl 3 rfl) ?_
              refine lv_iload_n hx hb dX11_amountAt_246 rfl (lv_at hl 2 rfl) ?_
              refine lv_iadd hx hb dX11_amountAt_247 ?_
              refine va_put (D := D) (ci := 11) (ty := .int) (C := RX11) (T := TX11) (N := 37) hx hb hts in_X11 tyX11 tyX11_ok nmX11 hown hK hP hD hS 0 rfl rfl 35 (by decide) fl_176 (fun _ h9 => h9) rfl (by decide +kernel) rfl rfl (Nat.le_of_ble_eq_true rfl) dX11_amountAt_248 (fun H locs hP hD hS => ?_)
              have hP : va_P D vwCl [(m, .inr (11, [_, .ref (a 1), .ref (a 2), _, _, _, .ref (a 6), .ref (a 7), .ref (a 8), .ref (a 9), .ref (a 10), .ref (a 11), .ref (a 12), .ref (a 13), .ref (a 14), .ref (a 15), _, _, .ref (a 18), .ref (a 19), .ref (a 20), .ref (a 21), .ref (a 22), .ref (a 23), .ref (a 24), .ref (a 25), _, _, .ref (a 28), _, _, .ref (a 31), .ref (a 32), .ref (a 33), _, _, _])), ((a 9), .inl (cI, 40, .inl _)), ((a 10), .inl (cI, 40, .inl _)), ((a 18), .inl (cI, 24, .inl _)), ((a 21), .inl (cI, 24, .inl _))] H := hP
              have hD : va_D A [(m, .inr (11, [_, .ref (a 1), .ref (a 2), _, _, _, .ref (a 6), .ref (a 7), .ref (a 8), .ref (a 9), .ref (a 10), .ref (a 11), .ref (a 12), .ref (a 13), .ref (a 14), .ref (a 15), _, _, .ref (a 18), .ref (a 19), .ref (a 20), .ref (a 21), .ref (a 22), .ref (a 23), .ref (a 24), .ref (a 25), _, _, .ref (a 28), _, _, .ref (a 31), .ref (a 32), .ref (a 33), _, _, _])), ((a 9), .inl (cI, 40, .inl _)), ((a 10), .inl (cI, 40, .inl _)), ((a 18), .inl (cI, 24, .inl _)), ((a 21), .inl (cI, 24, .inl _))] := hD
              refine lv_iload hx hb dX11_amountAt_251 (lv_at hl 4 rfl) ?_
              refine lv_iload_n hx hb dX11_amountAt_253 rfl (lv_at hl 1 rfl) ?_
              refine lv_isub hx hb dX11_amountAt_254 ?_
              refine topi_eq (nI_sub1 (by omega)) ?_
              exact mu_iret X hP hS (by rw [ht]) (by rw [ht]) dX11_amountAt_255
            · have hlt : k < tn := lt_nge c_70 hkt (by omega)
              refine lv_aload_n hx hb dX11_amountAt_73 rfl (lv_at hl 0 rfl) ?_
              refine lv_iload hx hb dX11_amountAt_74 (lv_at hl 4 rfl) ?_
              refine ro_V (n := 1) X hK (c_X11_isNumberWord htn hnw hrt hrw hlt) gX11_amountAt_X11_isNumberWord rfl (by decide +kernel) ⟨rfl, rfl⟩ ⟨Nat.le_of_ble_eq_true rfl, Nat.le_of_ble_eq_true rfl⟩ (hP.sub [0, 1, 3, 4] rfl) (va_recv hK hP (ci := 11) (q0 := 0) rfl rfl) rfl hl.1 rfl (Nat.le_of_ble_eq_true rfl) dX11_amountAt_76 ⟨Nat.zero_le _, Nat.zero_le _⟩ ?_
              refine lv_if_eq (tgt := 244) hx hb dX11_amountAt_79 (by decide) (fun c_79 => ?_) (fun c_79 => ?_)
              · replace c_79 := bI_0.mp c_79
                have hfin : (rest, part, nI (k - i)) = smF T tn nw wz (tn - i) i (0, 0, 0) := by
                  first
                  | (rw [← hr, if_neg (by rw [c_61]; decide)]; done)
                  | (rw [← hr, if_pos rfl, show tn - k = 0 by have := leL (a := tn) (b := k) c_70; omega]; rfl)
                  | (have hltx : k < tn := lt_nge c_70 hkt (by omega); rw [← hr, if_pos rfl, nw_none hltx c_79])
                have ht : smA T tn nw wz i = (rest, part, nI (k - i)) := by rw [smA, if_neg c_12, hfin]
                refine lv_aload_n hx hb dX11_amountAt_244 rfl (lv_at hl 0 rfl) ?_
                refine lv_iload_n hx hb dX11_amountAt_245 rfl (lv_at hl 3 rfl) ?_
                refine lv_iload_n hx hb dX11_amountAt_246 rfl (lv_at hl 2 rfl) ?_
                refine lv_iadd hx hb dX11_amountAt_247 ?_
                refine va_put (D := D) (ci := 11) (ty := .int) (C := RX11) (T := TX11) (N := 37) hx hb hts in_X11 tyX11 tyX11_ok nmX11 hown hK hP hD hS 0 rfl rfl 35 (by decide) fl_176 (fun _ h9 => h9) rfl (by decide +kernel) rfl rfl (Nat.le_of_ble_eq_true rfl) dX11_amountAt_248 (fun H locs hP hD hS => ?_)
                have hP : va_P D vwCl [(m, .inr (11, [_, .ref (a 1), .ref (a 2), _, _, _, .ref (a 6), .ref (a 7), .ref (a 8), .ref (a 9), .ref (a 10), .ref (a 11), .ref (a 12), .ref (a 13), .ref (a 14), .ref (a 15), _, _, .ref (a 18), .ref (a 19), .ref (a 20), .ref (a 21), .ref (a 22), .ref (a 23), .ref (a 24), .ref (a 25), _, _, .ref (a 28), _, _, .ref (a 31), .ref (a 32), .ref (a 33), _, _, _])), ((a 9), .inl (cI, 40, .inl _)), ((a 10), .inl (cI, 40, .inl _)), ((a 18), .inl (cI, 24, .inl _)), ((a 21), .inl (cI, 24, .inl _))] H := hP
                have hD : va_D A [(m, .inr (11, [_, .ref (a 1), .ref (a 2), _, _, _, .ref (a 6), .ref (a 7), .ref (a 8), .ref (a 9), .ref (a 10), .ref (a 11), .ref (a 12), .ref (a 13), .ref (a 14), .ref (a 15), _, _, .ref (a 18), .ref (a 19), .ref (a 20), .ref (a 21), .ref (a 22), .ref (a 23), .ref (a 24), .ref (a 25), _, _, .ref (a 28), _, _, .ref (a 31), .ref (a 32), .ref (a 33), _, _, _])), ((a 9), .inl (cI, 40, .inl _)), ((a 10), .inl (cI, 40, .inl _)), ((a 18), .inl (cI, 24, .inl _)), ((a 21), .inl (cI, 24, .inl _))] := hD
                refine lv_iload hx hb dX11_amountAt_251 (lv_at hl 4 rfl) ?_
                refine lv_iload_n hx hb dX11_amountAt_253 rfl (lv_at hl 1 rfl) ?_
                refine lv_isub hx hb dX11_amountAt_254 ?_
                refine topi_eq (nI_sub1 (by omega)) ?_
                exact mu_iret X hP hS (by rw [ht]) (by rw [ht]) dX11_amountAt_255
              · replace c_79 := bI_n0.mp c_79
                obtain ⟨j, hj, e4, etw, hnk⟩ := nw_some hrt hnw hlt c_79
                have hne : ¬ nI (k - i) = 0 := fun q => by have := (nI_eq (a := k - i) (b := 0) (by omega) (by decide)).mp q; omega
                refine lv_aload_n hx hb dX11_amountAt_82 rfl (lv_at hl 0 rfl) ?_
                refine va_get (D := D) (ci := 11) (C := RX11) (T := TX11) (N := 37) hx hb hts in_X11 hown hK hP 0 rfl rfl 10 (by decide) fl_28 (fun _ h9 => h9) rfl dX11_amountAt_83 ?_
                refine lv_aload_n hx hb dX11_amountAt_86 rfl (lv_at hl 0 rfl) ?_
                refine va_get (D := D) (ci := 11) (C := RX11) (T := TX11) (N := 37) hx hb hts in_X11 hown hK hP 0 rfl rfl 21 (by decide) fl_55 (fun _ h9 => h9) rfl dX11_amountAt_87 ?_
                refine lv_iload hx hb dX11_amountAt_90 (lv_at hl 4 rfl) ?_
                refine ald_n hx hb hK hP 4 0 rfl rfl (show k < 24 by omega) (by first | decide | omega) dX11_amountAt_92 ?_
                refine topi_eq ((hrt k hlt).2.2.2.1.trans e4) ?_
                refine ald_n hx hb hK hP 2 0 rfl rfl (show j < 40 by omega) (by first | decide | omega) dX11_amountAt_93 ?_
                refine topi_eq (hrw j hj).2.2.2.2.2.1 ?_
                refine lv_istore (lv' := [(6, _), (0, _), (1, _), (2, _), (3, _), (4, _), (5, _)]) hx hb dX11_amountAt_94 hl (by decide) rfl (fun ls hl => ?_)
                refine lv_iload_n hx hb dX11_amountAt_96 rfl (lv_at hl 3 rfl) ?_
                refine lv_bipush (v := 100) hx hb dX11_amountAt_97 (by decide) ?_
                refine lv_irem hx hb dX11_amountAt_99 (by decide) ?_
                refine lv_istore (lv' := [(7, _), (6, _), (0, _), (1, _), (2, _), (3, _), (4, _), (5, _)]) hx hb dX11_amountAt_100 hl (by decide) rfl (fun ls hl => ?_)
                refine lv_iload hx hb dX11_amountAt_102 (lv_at hl 1 rfl) ?_
                refine lv_bipush (v := 100) hx hb dX11_amountAt_104 (by decide) ?_
                refine lv_icmp_ne (tgt := 127) hx hb dX11_amountAt_106 (by decide) (fun c_106 => ?_) (fun c_106 => ?_)
                · refine lv_iload hx hb dX11_amountAt_127 (lv_at hl 1 rfl) ?_
                  refine lv_sipush (v := 1000) hx hb dX11_amountAt_129 (by decide) ?_
                  refine lv_icmp_ne (tgt := 161) hx hb dX11_amountAt_132 (by decide) (fun c_132 => ?_) (fun c_132 => ?_)
                  · refine lv_iload hx hb dX11_amountAt_161 (lv_at hl 1 rfl) ?_
                    refine lv_iconst (v := 1) hx hb dX11_amountAt_163 (by decide) ?_
                    refine lv_bipush (v := 99) hx hb dX11_amountAt_164 (by decide) ?_
                    refine ro_S (n := 3) X hK (c_X11_in) gX11_amountAt_X11_in rfl (by decide +kernel) ⟨rfl, rfl⟩ ⟨Nat.le_of_ble_eq_true rfl, Nat.le_of_ble_eq_true rfl⟩ (hP.sub [] rfl) rfl hl.1 rfl (Nat.le_of_ble_eq_true rfl) dX11_amountAt_166 ⟨Nat.zero_le _, Nat.zero_le _⟩ ?_
                    refine lv_if_eq (tgt := 189) hx hb dX11_amountAt_169 (by decide) (fun c_169 => ?_) (fun c_169 => ?_)
                    · replace c_169 := bI_0.mp c_169
                      refine lv_iload hx hb dX11_amountAt_189 (lv_at hl 1 rfl) ?_
                      refine lv_iconst (v := 1) hx hb dX11_amountAt_191 (by decide) ?_
                      refine lv_bipush (v := 9) hx hb dX11_amountAt_192 (by decide) ?_
                      refine ro_S (n := 3) X hK (c_X11_in) gX11_amountAt_X11_in rfl (by decide +kernel) ⟨rfl, rfl⟩ ⟨Nat.le_of_ble_eq_true rfl, Nat.le_of_ble_eq_true rfl⟩ (hP.sub [] rfl) rfl hl.1 rfl (Nat.le_of_ble_eq_true rfl) dX11_amountAt_194 ⟨Nat.zero_le _, Nat.zero_le _⟩ ?_
                      refine lv_if_eq (tgt := 223) hx hb dX11_amountAt_197 (by decide) (fun c_197 => ?_) (fun c_197 => ?_)
                      · replace c_197 := bI_0.mp c_197
                        refine lv_iconst (v := 0) hx hb dX11_amountAt_223 (by decide) ?_
                        refine lv_istore (lv' := [(5, _), (7, _), (6, _), (0, _), (1, _), (2, _), (3, _), (4, _)]) hx hb dX11_amountAt_224 hl (by decide) rfl (fun ls hl => ?_)
                        have hs : sumA rest part (nI (k - i)) (wz j 3) = (false, rest, part, nI (k - i)) := by rw [sumA_in hne hrest]; simp [c_106, c_132, c_169, c_197]
                        refine lv_iload hx hb dX11_amountAt_226 (lv_at hl 7 rfl) ?_
                        refine lv_iload hx hb dX11_amountAt_228 (lv_at hl 0 rfl) ?_
                        refine lv_if_eq (tgt := 237) hx hb dX11_amountAt_230 (by decide) (fun _ => ?_) (fun c_230 => absurd c_230 (by decide))
                        refine lv_iconst (v := 0) hx hb dX11_amountAt_237 (by decide) ?_
                        refine lv_iadd hx hb dX11_amountAt_238 ?_
                        refine lv_istore (lv' := [(4, _), (5, _), (7, _), (6, _), (0, _), (1, _), (2, _), (3, _)]) hx hb dX11_amountAt_239 hl (by decide) rfl (fun ls hl => ?_)
                        refine lv_goto (tgt := 59) hx hb dX11_amountAt_241 (by decide) ?_
                        rw [Int32.add_zero] at hl
                        exact ih k false rest part (by rw [if_neg (by decide)]; rw [if_pos rfl] at hm; omega) (by omega) (by omega) hrest (by rw [← hr, if_pos rfl, smF_no hlt etw hnk (by rw [hs]), hs]; rfl) _ _ hP hD hS _ (lv_sub hl [4, 5, 6, 7, 0, 1] rfl)
                      · replace c_197 := bI_n0.mp c_197
                        refine lv_iload hx hb dX11_amountAt_200 (lv_at hl 0 rfl) ?_
                        refine lv_bipush (v := 20) hx hb dX11_amountAt_202 (by decide) ?_
                        refine lv_icmp_lt (tgt := 223) hx hb dX11_amountAt_204 (by decide) (fun c_204 => ?_) (fun c_204 => ?_)
                        · refine lv_iconst (v := 0) hx hb dX11_amountAt_223 (by decide) ?_
                          refine lv_istore (lv' := [(5, _), (7, _), (6, _), (0, _), (1, _), (2, _), (3, _), (4, _)]) hx hb dX11_amountAt_224 hl (by decide) rfl (fun ls hl => ?_)
                          have hs : sumA rest part (nI (k - i)) (wz j 3) = (false, rest, part, nI (k - i)) := by rw [sumA_in hne hrest]; simp [c_106, c_132, c_169, c_197, c_204]
                          refine lv_iload hx hb dX11_amountAt_226 (lv_at hl 7 rfl) ?_
                          refine lv_iload hx hb dX11_amountAt_228 (lv_at hl 0 rfl) ?_
                          refine lv_if_eq (tgt := 237) hx hb dX11_amountAt_230 (by decide) (fun _ => ?_) (fun c_230 => absurd c_230 (by decide))
                          refine lv_iconst (v := 0) hx hb dX11_amountAt_237 (by decide) ?_
                          refine lv_iadd hx hb dX11_amountAt_238 ?_
                          refine lv_istore (lv' := [(4, _), (5, _), (7, _), (6, _), (0, _), (1, _), (2, _), (3, _)]) hx hb dX11_amountAt_239 hl (by decide) rfl (fun ls hl => ?_)
                          refine lv_goto (tgt := 59) hx hb dX11_amountAt_241 (by decide) ?_
                          rw [Int32.add_zero] at hl
                          exact ih k false rest part (by rw [if_neg (by decide)]; rw [if_pos rfl] at hm; omega) (by omega) (by omega) hrest (by rw [← hr, if_pos rfl, smF_no hlt etw hnk (by rw [hs]), hs]; rfl) _ _ hP hD hS _ (lv_sub hl [4, 5, 6, 7, 0, 1] rfl)
                        · refine lv_iload hx hb dX11_amountAt_207 (lv_at hl 0 rfl) ?_
                          refine lv_bipush (v := 10) hx hb dX11_amountAt_209 (by decide) ?_
                          refine lv_irem hx hb dX11_amountAt_211 (by decide) ?_
                          refine lv_if_ne (tgt := 223) hx hb dX11_amountAt_212 (by decide) (fun c_212 => ?_) (fun c_212 => ?_)
                          · refine lv_iconst (v := 0) hx hb dX11_amountAt_223 (by decide) ?_
                            refine lv_istore (lv' := [(5, _), (7, _), (6, _), (0, _), (1, _), (2, _), (3, _), (4, _)]) hx hb dX11_amountAt_224 hl (by decide) rfl (fun ls hl => ?_)
                            have hs : sumA rest part (nI (k - i)) (wz j 3) = (false, rest, part, nI (k - i)) := by rw [sumA_in hne hrest]; simp [c_106, c_132, c_169, c_197, c_204, c_212]
                            refine lv_iload hx hb dX11_amountAt_226 (lv_at hl 7 rfl) ?_
                            refine lv_iload hx hb dX11_amountAt_228 (lv_at hl 0 rfl) ?_
                            refine lv_if_eq (tgt := 237) hx hb dX11_amountAt_230 (by decide) (fun _ => ?_) (fun c_230 => absurd c_230 (by decide))
                            refine lv_iconst (v := 0) hx hb dX11_amountAt_237 (by decide) ?_
                            refine lv_iadd hx hb dX11_amountAt_238 ?_
                            refine lv_istore (lv' := [(4, _), (5, _), (7, _), (6, _), (0, _), (1, _), (2, _), (3, _)]) hx hb dX11_amountAt_239 hl (by decide) rfl (fun ls hl => ?_)
                            refine lv_goto (tgt := 59) hx hb dX11_amountAt_241 (by decide) ?_
                            rw [Int32.add_zero] at hl
                            exact ih k false rest part (by rw [if_neg (by decide)]; rw [if_pos rfl] at hm; omega) (by omega) (by omega) hrest (by rw [← hr, if_pos rfl, smF_no hlt etw hnk (by rw [hs]), hs]; rfl) _ _ hP hD hS _ (lv_sub hl [4, 5, 6, 7, 0, 1] rfl)
                          · refine lv_iload_n hx hb dX11_amountAt_215 rfl (lv_at hl 4 rfl) ?_
                            refine lv_iload hx hb dX11_amountAt_216 (lv_at hl 1 rfl) ?_
                            refine lv_iadd hx hb dX11_amountAt_218 ?_
                            refine lv_istore_n (lv' := [(2, _), (7, _), (6, _), (0, _), (1, _), (3, _), (4, _), (5, _)]) hx hb dX11_amountAt_219 rfl hl (by decide) rfl (fun ls hl => ?_)
                            refine lv_goto (tgt := 226) hx hb dX11_amountAt_220 (by decide) ?_
                            have hs : sumA rest part (nI (k - i)) (wz j 3) = (true, rest, part + wz j 3, nI (k - i) + 1) := by rw [sumA_in hne hrest]; simp [c_106, c_132, c_169, c_197, c_204, eq_true c_212]
                            refine lv_iload hx hb dX11_amountAt_226 (lv_at hl 6 rfl) ?_
                            refine lv_iload hx hb dX11_amountAt_228 (lv_at hl 7 rfl) ?_
                            refine lv_if_eq (tgt := 237) hx hb dX11_amountAt_230 (by decide) (fun c_230 => absurd c_230 (by decide)) (fun _ => ?_)
                            refine lv_iconst (v := 1) hx hb dX11_amountAt_233 (by decide) ?_
                            refine lv_goto (tgt := 238) hx hb dX11_amountAt_234 (by decide) ?_
                            refine lv_iadd hx hb dX11_amountAt_238 ?_
                            refine lv_istore (lv' := [(4, _), (2, _), (7, _), (6, _), (0, _), (1, _), (3, _), (5, _)]) hx hb dX11_amountAt_239 hl (by decide) rfl (fun ls hl => ?_)
                            refine lv_goto (tgt := 59) hx hb dX11_amountAt_241 (by decide) ?_
                            rw [nI_1] at hl
                            exact ih (k + 1) true rest (part + wz j 3) (by rw [if_pos rfl]; rw [if_pos rfl] at hm; omega) (by omega) (by omega) (hrest) (by rw [← hr, if_pos rfl, smF_go hlt etw hnk (by rw [hs]), hs, show k + 1 - i = k - i + 1 by omega, ← nI_1]; rfl) _ _ hP hD hS _ (lv_sub hl [4, 5, 1, 6, 0, 7] rfl)
                    · replace c_169 := bI_n0.mp c_169
                      refine lv_iload_n hx hb dX11_amountAt_172 rfl (lv_at hl 4 rfl) ?_
                      refine lv_if_le (tgt := 181) hx hb dX11_amountAt_173 (by decide) (fun c_173 => ?_) (fun c_173 => ?_)
                      · have c_173b : ¬ 0 < part := Int32.not_lt.mpr c_173
                        refine lv_iload_n hx hb dX11_amountAt_181 rfl (lv_at hl 4 rfl) ?_
                        refine lv_if_ne (tgt := 189) hx hb dX11_amountAt_182 (by decide) (fun c_182 => ?_) (fun c_182 => ?_)
                        · refine lv_iload hx hb dX11_amountAt_189 (lv_at hl 1 rfl) ?_
                          refine lv_iconst (v := 1) hx hb dX11_amountAt_191 (by decide) ?_
                          refine lv_bipush (v := 9) hx hb dX11_amountAt_192 (by decide) ?_
                          refine ro_S (n := 3) X hK (c_X11_in) gX11_amountAt_X11_in rfl (by decide +kernel) ⟨rfl, rfl⟩ ⟨Nat.le_of_ble_eq_true rfl, Nat.le_of_ble_eq_true rfl⟩ (hP.sub [] rfl) rfl hl.1 rfl (Nat.le_of_ble_eq_true rfl) dX11_amountAt_194 ⟨Nat.zero_le _, Nat.zero_le _⟩ ?_
                          refine lv_if_eq (tgt := 223) hx hb dX11_amountAt_197 (by decide) (fun c_197 => ?_) (fun c_197 => ?_)
                          · replace c_197 := bI_0.mp c_197
                            refine lv_iconst (v := 0) hx hb dX11_amountAt_223 (by decide) ?_
                            refine lv_istore (lv' := [(5, _), (7, _), (6, _), (0, _), (1, _), (2, _), (3, _), (4, _)]) hx hb dX11_amountAt_224 hl (by decide) rfl (fun ls hl => ?_)
                            have hs : sumA rest part (nI (k - i)) (wz j 3) = (false, rest, part, nI (k - i)) := by rw [sumA_in hne hrest]; simp [c_173b, c_106, c_132, c_169, c_173, c_182, c_197]
                            refine lv_iload hx hb dX11_amountAt_226 (lv_at hl 7 rfl) ?_
                            refine lv_iload hx hb dX11_amountAt_228 (lv_at hl 0 rfl) ?_
                            refine lv_if_eq (tgt := 237) hx hb dX11_amountAt_230 (by decide) (fun _ => ?_) (fun c_230 => absurd c_230 (by decide))
                            refine lv_iconst (v := 0) hx hb dX11_amountAt_237 (by decide) ?_
                            refine lv_iadd hx hb dX11_amountAt_238 ?_
                            refine lv_istore (lv' := [(4, _), (5, _), (7, _), (6, _), (0, _), (1, _), (2, _), (3, _)]) hx hb dX11_amountAt_239 hl (by decide) rfl (fun ls hl => ?_)
                            refine lv_goto (tgt := 59) hx hb dX11_amountAt_241 (by decide) ?_
                            rw [Int32.add_zero] at hl
                            exact ih k false rest part (by rw [if_neg (by decide)]; rw [if_pos rfl] at hm; omega) (by omega) (by omega) hrest (by rw [← hr, if_pos rfl, smF_no hlt etw hnk (by rw [hs]), hs]; rfl) _ _ hP hD hS _ (lv_sub hl [4, 5, 6, 7, 0, 1] rfl)
                          · replace c_197 := bI_n0.mp c_197
                            refine lv_iload hx hb dX11_amountAt_200 (lv_at hl 0 rfl) ?_
                            refine lv_bipush (v := 20) hx hb dX11_amountAt_202 (by decide) ?_
                            refine lv_icmp_lt (tgt := 223) hx hb dX11_amountAt_204 (by decide) (fun c_204 => ?_) (fun c_204 => ?_)
                            · refine lv_iconst (v := 0) hx hb dX11_amountAt_223 (by decide) ?_
                              refine lv_istore (lv' := [(5, _), (7, _), (6, _), (0, _), (1, _), (2, _), (3, _), (4, _)]) hx hb dX11_amountAt_224 hl (by decide) rfl (fun ls hl => ?_)
                              have hs : sumA rest part (nI (k - i)) (wz j 3) = (false, rest, part, nI (k - i)) := by rw [sumA_in hne hrest]; simp [c_173b, c_106, c_132, c_169, c_173, c_182, c_197, c_204]
                              refine lv_iload hx hb dX11_amountAt_226 (lv_at hl 7 rfl) ?_
                              refine lv_iload hx hb dX11_amountAt_228 (lv_at hl 0 rfl) ?_
                              refine lv_if_eq (tgt := 237) hx hb dX11_amountAt_230 (by decide) (fun _ => ?_) (fun c_230 => absurd c_230 (by decide))
                              refine lv_iconst (v := 0) hx hb dX11_amountAt_237 (by decide) ?_
                              refine lv_iadd hx hb dX11_amountAt_238 ?_
                              refine lv_istore (lv' := [(4, _), (5, _), (7, _), (6, _), (0, _), (1, _), (2, _), (3, _)]) hx hb dX11_amountAt_239 hl (by decide) rfl (fun ls hl => ?_)
                              refine lv_goto (tgt := 59) hx hb dX11_amountAt_241 (by decide) ?_
                              rw [Int32.add_zero] at hl
                              exact ih k false rest part (by rw [if_neg (by decide)]; rw [if_pos rfl] at hm; omega) (by omega) (by omega) hrest (by rw [← hr, if_pos rfl, smF_no hlt etw hnk (by rw [hs]), hs]; rfl) _ _ hP hD hS _ (lv_sub hl [4, 5, 6, 7, 0, 1] rfl)
                            · refine lv_iload hx hb dX11_amountAt_207 (lv_at hl 0 rfl) ?_
                              refine lv_bipush (v := 10) hx hb dX11_amountAt_209 (by decide) ?_
                              refine lv_irem hx hb dX11_amountAt_211 (by decide) ?_
                              refine lv_if_ne (tgt := 223) hx hb dX11_amountAt_212 (by decide) (fun c_212 => ?_) (fun c_212 => ?_)
                              · refine lv_iconst (v := 0) hx hb dX11_amountAt_223 (by decide) ?_
                                refine lv_istore (lv' := [(5, _), (7, _), (6, _), (0, _), (1, _), (2, _), (3, _), (4, _)]) hx hb dX11_amountAt_224 hl (by decide) rfl (fun ls hl => ?_)
                                have hs : sumA rest part (nI (k - i)) (wz j 3) = (false, rest, part, nI (k - i)) := by rw [sumA_in hne hrest]; simp [c_173b, c_106, c_132, c_169, c_173, c_182, c_197, c_204, c_212]
                                refine lv_iload hx hb dX11_amountAt_226 (lv_at hl 7 rfl) ?_
                                refine lv_iload hx hb dX11_amountAt_228 (lv_at hl 0 rfl) ?_
                                refine lv_if_eq (tgt := 237) hx hb dX11_amountAt_230 (by decide) (fun _ => ?_) (fun c_230 => absurd c_230 (by decide))
                                refine lv_iconst (v := 0) hx hb dX11_amountAt_237 (by decide) ?_
                                refine lv_iadd hx hb dX11_amountAt_238 ?_
                                refine lv_istore (lv' := [(4, _), (5, _), (7, _), (6, _), (0, _), (1, _), (2, _), (3, _)]) hx hb dX11_amountAt_239 hl (by decide) rfl (fun ls hl => ?_)
                                refine lv_goto (tgt := 59) hx hb dX11_amountAt_241 (by decide) ?_
                                rw [Int32.add_zero] at hl
                                exact ih k false rest part (by rw [if_neg (by decide)]; rw [if_pos rfl] at hm; omega) (by omega) (by omega) hrest (by rw [← hr, if_pos rfl, smF_no hlt etw hnk (by rw [hs]), hs]; rfl) _ _ hP hD hS _ (lv_sub hl [4, 5, 6, 7, 0, 1] rfl)
                              · refine lv_iload_n hx hb dX11_amountAt_215 rfl (lv_at hl 4 rfl) ?_
                                refine lv_iload hx hb dX11_amountAt_216 (lv_at hl 1 rfl) ?_
                                refine lv_iadd hx hb dX11_amountAt_218 ?_
                                refine lv_istore_n (lv' := [(2, _), (7, _), (6, _), (0, _), (1, _), (3, _), (4, _), (5, _)]) hx hb dX11_amountAt_219 rfl hl (by decide) rfl (fun ls hl => ?_)
                                refine lv_goto (tgt := 226) hx hb dX11_amountAt_220 (by decide) ?_
                                have hs : sumA rest part (nI (k - i)) (wz j 3) = (true, rest, part + wz j 3, nI (k - i) + 1) := by rw [sumA_in hne hrest]; simp [c_173b, c_106, c_132, c_169, c_173, c_182, c_197, c_204, eq_true c_212]
                                refine lv_iload hx hb dX11_amountAt_226 (lv_at hl 6 rfl) ?_
                                refine lv_iload hx hb dX11_amountAt_228 (lv_at hl 7 rfl) ?_
                                refine lv_if_eq (tgt := 237) hx hb dX11_amountAt_230 (by decide) (fun c_230 => absurd c_230 (by decide)) (fun _ => ?_)
                                refine lv_iconst (v := 1) hx hb dX11_amountAt_233 (by decide) ?_
                                refine lv_goto (tgt := 238) hx hb dX11_amountAt_234 (by decide) ?_
                                refine lv_iadd hx hb dX11_amountAt_238 ?_
                                refine lv_istore (lv' := [(4, _), (2, _), (7, _), (6, _), (0, _), (1, _), (3, _), (5, _)]) hx hb dX11_amountAt_239 hl (by decide) rfl (fun ls hl => ?_)
                                refine lv_goto (tgt := 59) hx hb dX11_amountAt_241 (by decide) ?_
                                rw [nI_1] at hl
                                exact ih (k + 1) true rest (part + wz j 3) (by rw [if_pos rfl]; rw [if_pos rfl] at hm; omega) (by omega) (by omega) (hrest) (by rw [← hr, if_pos rfl, smF_go hlt etw hnk (by rw [hs]), hs, show k + 1 - i = k - i + 1 by omega, ← nI_1]; rfl) _ _ hP hD hS _ (lv_sub hl [4, 5, 1, 6, 0, 7] rfl)
                        · refine lv_iload_n hx hb dX11_amountAt_185 rfl (lv_at hl 5 rfl) ?_
                          refine lv_if_gt (tgt := 215) hx hb dX11_amountAt_186 (by decide) (fun c_186 => ?_) (fun c_186 => ?_)
                          · refine lv_iload_n hx hb dX11_amountAt_215 rfl (lv_at hl 4 rfl) ?_
                            refine lv_iload hx hb dX11_amountAt_216 (lv_at hl 1 rfl) ?_
                            refine lv_iadd hx hb dX11_amountAt_218 ?_
                            refine lv_istore_n (lv' := [(2, _), (7, _), (6, _), (0, _), (1, _), (3, _), (4, _), (5, _)]) hx hb dX11_amountAt_219 rfl hl (by decide) rfl (fun ls hl => ?_)
                            refine lv_goto (tgt := 226) hx hb dX11_amountAt_220 (by decide) ?_
                            have hs : sumA rest part (nI (k - i)) (wz j 3) = (true, rest, part + wz j 3, nI (k - i) + 1) := by rw [sumA_in hne hrest]; simp [c_173b, c_106, c_132, c_169, c_173, eq_true c_182, c_186]
                            refine lv_iload hx hb dX11_amountAt_226 (lv_at hl 6 rfl) ?_
                            refine lv_iload hx hb dX11_amountAt_228 (lv_at hl 7 rfl) ?_
                            refine lv_if_eq (tgt := 237) hx hb dX11_amountAt_230 (by decide) (fun c_230 => absurd c_230 (by decide)) (fun _ => ?_)
                            refine lv_iconst (v := 1) hx hb dX11_amountAt_233 (by decide) ?_
                            refine lv_goto (tgt := 238) hx hb dX11_amountAt_234 (by decide) ?_
                            refine lv_iadd hx hb dX11_amountAt_238 ?_
                            refine lv_istore (lv' := [(4, _), (2, _), (7, _), (6, _), (0, _), (1, _), (3, _), (5, _)]) hx hb dX11_amountAt_239 hl (by decide) rfl (fun ls hl => ?_)
                            refine lv_goto (tgt := 59) hx hb dX11_amountAt_241 (by decide) ?_
                            rw [nI_1] at hl
                            exact ih (k + 1) true rest (part + wz j 3) (by rw [if_pos rfl]; rw [if_pos rfl] at hm; omega) (by omega) (by omega) (hrest) (by rw [← hr, if_pos rfl, smF_go hlt etw hnk (by rw [hs]), hs, show k + 1 - i = k - i + 1 by omega, ← nI_1]; rfl) _ _ hP hD hS _ (lv_sub hl [4, 5, 1, 6, 0, 7] rfl)
                          · refine lv_iload hx hb dX11_amountAt_189 (lv_at hl 1 rfl) ?_
                            refine lv_iconst (v := 1) hx hb dX11_amountAt_191 (by decide) ?_
                            refine lv_bipush (v := 9) hx hb dX11_amountAt_192 (by decide) ?_
                            refine ro_S (n := 3) X hK (c_X11_in) gX11_amountAt_X11_in rfl (by decide +kernel) ⟨rfl, rfl⟩ ⟨Nat.le_of_ble_eq_true rfl, Nat.le_of_ble_eq_true rfl⟩ (hP.sub [] rfl) rfl hl.1 rfl (Nat.le_of_ble_eq_true rfl) dX11_amountAt_194 ⟨Nat.zero_le _, Nat.zero_le _⟩ ?_
                            refine lv_if_eq (tgt := 223) hx hb dX11_amountAt_197 (by decide) (fun c_197 => ?_) (fun c_197 => ?_)
                            · replace c_197 := bI_0.mp c_197
                              refine lv_iconst (v := 0) hx hb dX11_amountAt_223 (by decide) ?_
                              refine lv_istore (lv' := [(5, _), (7, _), (6, _), (0, _), (1, _), (2, _), (3, _), (4, _)]) hx hb dX11_amountAt_224 hl (by decide) rfl (fun ls hl => ?_)
                              have hs : sumA rest part (nI (k - i)) (wz j 3) = (false, rest, part, nI (k - i)) := by rw [sumA_in hne hrest]; simp [c_173b, c_106, c_132, c_169, c_173, eq_true c_182, c_186, c_197]
                              refine lv_iload hx hb dX11_amountAt_226 (lv_at hl 7 rfl) ?_
                              refine lv_iload hx hb dX11_amountAt_228 (lv_at hl 0 rfl) ?_
                              refine lv_if_eq (tgt := 237) hx hb dX11_amountAt_230 (by decide) (fun _ => ?_) (fun c_230 => absurd c_230 (by decide))
                              refine lv_iconst (v := 0) hx hb dX11_amountAt_237 (by decide) ?_
                              refine lv_iadd hx hb dX11_amountAt_238 ?_
                              refine lv_istore (lv' := [(4, _), (5, _), (7, _), (6, _), (0, _), (1, _), (2, _), (3, _)]) hx hb dX11_amountAt_239 hl (by decide) rfl (fun ls hl => ?_)
                              refine lv_goto (tgt := 59) hx hb dX11_amountAt_241 (by decide) ?_
                              rw [Int32.add_zero] at hl
                              exact ih k false rest part (by rw [if_neg (by decide)]; rw [if_pos rfl] at hm; omega) (by omega) (by omega) hrest (by rw [← hr, if_pos rfl, smF_no hlt etw hnk (by rw [hs]), hs]; rfl) _ _ hP hD hS _ (lv_sub hl [4, 5, 6, 7, 0, 1] rfl)
                            · replace c_197 := bI_n0.mp c_197
                              refine lv_iload hx hb dX11_amountAt_200 (lv_at hl 0 rfl) ?_
                              refine lv_bipush (v := 20) hx hb dX11_amountAt_202 (by decide) ?_
                              refine lv_icmp_lt (tgt := 223) hx hb dX11_amountAt_204 (by decide) (fun c_204 => ?_) (fun c_204 => ?_)
                              · refine lv_iconst (v := 0) hx hb dX11_amountAt_223 (by decide) ?_
                                refine lv_istore (lv' := [(5, _), (7, _), (6, _), (0, _), (1, _), (2, _), (3, _), (4, _)]) hx hb dX11_amountAt_224 hl (by decide) rfl (fun ls hl => ?_)
                                have hs : sumA rest part (nI (k - i)) (wz j 3) = (false, rest, part, nI (k - i)) := by rw [sumA_in hne hrest]; simp [c_173b, c_106, c_132, c_169, c_173, eq_true c_182, c_186, c_197, c_204]
                                refine lv_iload hx hb dX11_amountAt_226 (lv_at hl 7 rfl) ?_
                                refine lv_iload hx hb dX11_amountAt_228 (lv_at hl 0 rfl) ?_
                                refine lv_if_eq (tgt := 237) hx hb dX11_amountAt_230 (by decide) (fun _ => ?_) (fun c_230 => absurd c_230 (by decide))
                                refine lv_iconst (v := 0) hx hb dX11_amountAt_237 (by decide) ?_
                                refine lv_iadd hx hb dX11_amountAt_238 ?_
                                refine lv_istore (lv' := [(4, _), (5, _), (7, _), (6, _), (0, _), (1, _), (2, _), (3, _)]) hx hb dX11_amountAt_239 hl (by decide) rfl (fun ls hl => ?_)
                                refine lv_goto (tgt := 59) hx hb dX11_amountAt_241 (by decide) ?_
                                rw [Int32.add_zero] at hl
                                exact ih k false rest part (by rw [if_neg (by decide)]; rw [if_pos rfl] at hm; omega) (by omega) (by omega) hrest (by rw [← hr, if_pos rfl, smF_no hlt etw hnk (by rw [hs]), hs]; rfl) _ _ hP hD hS _ (lv_sub hl [4, 5, 6, 7, 0, 1] rfl)
                              · refine lv_iload hx hb dX11_amountAt_207 (lv_at hl 0 rfl) ?_
                                refine lv_bipush (v := 10) hx hb dX11_amountAt_209 (by decide) ?_
                                refine lv_irem hx hb dX11_amountAt_211 (by decide) ?_
                                refine lv_if_ne (tgt := 223) hx hb dX11_amountAt_212 (by decide) (fun c_212 => ?_) (fun c_212 => ?_)
                                · refine lv_iconst (v := 0) hx hb dX11_amountAt_223 (by decide) ?_
                                  refine lv_istore (lv' := [(5, _), (7, _), (6, _), (0, _), (1, _), (2, _), (3, _), (4, _)]) hx hb dX11_amountAt_224 hl (by decide) rfl (fun ls hl => ?_)
                                  have hs : sumA rest part (nI (k - i)) (wz j 3) = (false, rest, part, nI (k - i)) := by rw [sumA_in hne hrest]; simp [c_173b, c_106, c_132, c_169, c_173, eq_true c_182, c_186, c_197, c_204, c_212]
                                  refine lv_iload hx hb dX11_amountAt_226 (lv_at hl 7 rfl) ?_
                                  refine lv_iload hx hb dX11_amountAt_228 (lv_at hl 0 rfl) ?_
                                  refine lv_if_eq (tgt := 237) hx hb dX11_amountAt_230 (by decide) (fun _ => ?_) (fun c_230 => absurd c_230 (by decide))
                                  refine lv_iconst (v := 0) hx hb dX11_amountAt_237 (by decide) ?_
                                  refine lv_iadd hx hb dX11_amountAt_238 ?_
                                  refine lv_istore (lv' := [(4, _), (5, _), (7, _), (6, _), (0, _), (1, _), (2, _), (3, _)]) hx hb dX11_amountAt_239 hl (by decide) rfl (fun ls hl => ?_)
                                  refine lv_goto (tgt := 59) hx hb dX11_amountAt_241 (by decide) ?_
                                  rw [Int32.add_zero] at hl
                                  exact ih k false rest part (by rw [if_neg (by decide)]; rw [if_pos rfl] at hm; omega) (by omega) (by omega) hrest (by rw [← hr, if_pos rfl, smF_no hlt etw hnk (by rw [hs]), hs]; rfl) _ _ hP hD hS _ (lv_sub hl [4, 5, 6, 7, 0, 1] rfl)
                                · refine lv_iload_n hx hb dX11_amountAt_215 rfl (lv_at hl 4 rfl) ?_
                                  refine lv_iload hx hb dX11_amountAt_216 (lv_at hl 1 rfl) ?_
                                  refine lv_iadd hx hb dX11_amountAt_218 ?_
                                  refine lv_istore_n (lv' := [(2, _), (7, _), (6, _), (0, _), (1, _), (3, _), (4, _), (5, _)]) hx hb dX11_amountAt_219 rfl hl (by decide) rfl (fun ls hl => ?_)
                                  refine lv_goto (tgt := 226) hx hb dX11_amountAt_220 (by decide) ?_
                                  have hs : sumA rest part (nI (k - i)) (wz j 3) = (true, rest, part + wz j 3, nI (k - i) + 1) := by rw [sumA_in hne hrest]; simp [c_173b, c_106, c_132, c_169, c_173, eq_true c_182, c_186, c_197, c_204, eq_true c_212]
                                  refine lv_iload hx hb dX11_amountAt_226 (lv_at hl 6 rfl) ?_
                                  refine lv_iload hx hb dX11_amountAt_228 (lv_at hl 7 rfl) ?_
                                  refine lv_if_eq (tgt := 237) hx hb dX11_amountAt_230 (by decide) (fun c_230 => absurd c_230 (by decide)) (fun _ => ?_)
                                  refine lv_iconst (v := 1) hx hb dX11_amountAt_233 (by decide) ?_
                                  refine lv_goto (tgt := 238) hx hb dX11_amountAt_234 (by decide) ?_
                                  refine lv_iadd hx hb dX11_amountAt_238 ?_
                                  refine lv_istore (lv' := [(4, _), (2, _), (7, _), (6, _), (0, _), (1, _), (3, _), (5, _)]) hx hb dX11_amountAt_239 hl (by decide) rfl (fun ls hl => ?_)
                                  refine lv_goto (tgt := 59) hx hb dX11_amountAt_241 (by decide) ?_
                                  rw [nI_1] at hl
                                  exact ih (k + 1) true rest (part + wz j 3) (by rw [if_pos rfl]; rw [if_pos rfl] at hm; omega) (by omega) (by omega) (hrest) (by rw [← hr, if_pos rfl, smF_go hlt etw hnk (by rw [hs]), hs, show k + 1 - i = k - i + 1 by omega, ← nI_1]; rfl) _ _ hP hD hS _ (lv_sub hl [4, 5, 1, 6, 0, 7] rfl)
                      · have c_173b : 0 < part := Int32.not_le.mp c_173
                        refine lv_iload hx hb dX11_amountAt_176 (lv_at hl 0 rfl) ?_
                        refine lv_if_eq (tgt := 215) hx hb dX11_amountAt_178 (by decide) (fun c_178 => ?_) (fun c_178 => ?_)
                        · refine lv_iload_n hx hb dX11_amountAt_215 rfl (lv_at hl 4 rfl) ?_
                          refine lv_iload hx hb dX11_amountAt_216 (lv_at hl 1 rfl) ?_
                          refine lv_iadd hx hb dX11_amountAt_218 ?_
                          refine lv_istore_n (lv' := [(2, _), (7, _), (6, _), (0, _), (1, _), (3, _), (4, _), (5, _)]) hx hb dX11_amountAt_219 rfl hl (by decide) rfl (fun ls hl => ?_)
                          refine lv_goto (tgt := 226) hx hb dX11_amountAt_220 (by decide) ?_
                          have hs : sumA rest part (nI (k - i)) (wz j 3) = (true, rest, part + wz j 3, nI (k - i) + 1) := by rw [sumA_in hne hrest]; simp [c_173b, c_106, c_132, c_169, c_173, eq_true c_178]
                          refine lv_iload hx hb dX11_amountAt_226 (lv_at hl 6 rfl) ?_
                          refine lv_iload hx hb dX11_amountAt_228 (lv_at hl 7 rfl) ?_
                          refine lv_if_eq (tgt := 237) hx hb dX11_amountAt_230 (by decide) (fun c_230 => absurd c_230 (by decide)) (fun _ => ?_)
                          refine lv_iconst (v := 1) hx hb dX11_amountAt_233 (by decide) ?_
                          refine lv_goto (tgt := 238) hx hb dX11_amountAt_234 (by decide) ?_
                          refine lv_iadd hx hb dX11_amountAt_238 ?_
                          refine lv_istore (lv' := [(4, _), (2, _), (7, _), (6, _), (0, _), (1, _), (3, _), (5, _)]) hx hb dX11_amountAt_239 hl (by decide) rfl (fun ls hl => ?_)
                          refine lv_goto (tgt := 59) hx hb dX11_amountAt_241 (by decide) ?_
                          rw [nI_1] at hl
                          exact ih (k + 1) true rest (part + wz j 3) (by rw [if_pos rfl]; rw [if_pos rfl] at hm; omega) (by omega) (by omega) (hrest) (by rw [← hr, if_pos rfl, smF_go hlt etw hnk (by rw [hs]), hs, show k + 1 - i = k - i + 1 by omega, ← nI_1]; rfl) _ _ hP hD hS _ (lv_sub hl [4, 5, 1, 6, 0, 7] rfl)
                        · refine lv_iload_n hx hb dX11_amountAt_181 rfl (lv_at hl 4 rfl) ?_
                          refine lv_if_ne (tgt := 189) hx hb dX11_amountAt_182 (by decide) (fun c_182 => ?_) (fun c_182 => ?_)
                          · refine lv_iload hx hb dX11_amountAt_189 (lv_at hl 1 rfl) ?_
                            refine lv_iconst (v := 1) hx hb dX11_amountAt_191 (by decide) ?_
                            refine lv_bipush (v := 9) hx hb dX11_amountAt_192 (by decide) ?_
                            refine ro_S (n := 3) X hK (c_X11_in) gX11_amountAt_X11_in rfl (by decide +kernel) ⟨rfl, rfl⟩ ⟨Nat.le_of_ble_eq_true rfl, Nat.le_of_ble_eq_true rfl⟩ (hP.sub [] rfl) rfl hl.1 rfl (Nat.le_of_ble_eq_true rfl) dX11_amountAt_194 ⟨Nat.zero_le _, Nat.zero_le _⟩ ?_
                            refine lv_if_eq (tgt := 223) hx hb dX11_amountAt_197 (by decide) (fun c_197 => ?_) (fun c_197 => ?_)
                            · replace c_197 := bI_0.mp c_197
                              refine lv_iconst (v := 0) hx hb dX11_amountAt_223 (by decide) ?_
                              refine lv_istore (lv' := [(5, _), (7, _), (6, _), (0, _), (1, _), (2, _), (3, _), (4, _)]) hx hb dX11_amountAt_224 hl (by decide) rfl (fun ls hl => ?_)
                              have hs : sumA rest part (nI (k - i)) (wz j 3) = (false, rest, part, nI (k - i)) := by rw [sumA_in hne hrest]; simp [c_173b, c_106, c_132, c_169, c_173, c_178, c_182, c_197]
                              refine lv_iload hx hb dX11_amountAt_226 (lv_at hl 7 rfl) ?_
                              refine lv_iload hx hb dX11_amountAt_228 (lv_at hl 0 rfl) ?_
                              refine lv_if_eq (tgt := 237) hx hb dX11_amountAt_230 (by decide) (fun _ => ?_) (fun c_230 => absurd c_230 (by decide))
                              refine lv_iconst (v := 0) hx hb dX11_amountAt_237 (by decide) ?_
                              refine lv_iadd hx hb dX11_amountAt_238 ?_
                              refine lv_istore (lv' := [(4, _), (5, _), (7, _), (6, _), (0, _), (1, _), (2, _), (3, _)]) hx hb dX11_amountAt_239 hl (by decide) rfl (fun ls hl => ?_)
                              refine lv_goto (tgt := 59) hx hb dX11_amountAt_241 (by decide) ?_
                              rw [Int32.add_zero] at hl
                              exact ih k false rest part (by rw [if_neg (by decide)]; rw [if_pos rfl] at hm; omega) (by omega) (by omega) hrest (by rw [← hr, if_pos rfl, smF_no hlt etw hnk (by rw [hs]), hs]; rfl) _ _ hP hD hS _ (lv_sub hl [4, 5, 6, 7, 0, 1] rfl)
                            · replace c_197 := bI_n0.mp c_197
                              refine lv_iload hx hb dX11_amountAt_200 (lv_at hl 0 rfl) ?_
                              refine lv_bipush (v := 20) hx hb dX11_amountAt_202 (by decide) ?_
                              refine lv_icmp_lt (tgt := 223) hx hb dX11_amountAt_204 (by decide) (fun c_204 => ?_) (fun c_204 => ?_)
                              · refine lv_iconst (v := 0) hx hb dX11_amountAt_223 (by decide) ?_
                                refine lv_istore (lv' := [(5, _), (7, _), (6, _), (0, _), (1, _), (2, _), (3, _), (4, _)]) hx hb dX11_amountAt_224 hl (by decide) rfl (fun ls hl => ?_)
                                have hs : sumA rest part (nI (k - i)) (wz j 3) = (false, rest, part, nI (k - i)) := by rw [sumA_in hne hrest]; simp [c_173b, c_106, c_132, c_169, c_173, c_178, c_182, c_197, c_204]
                                refine lv_iload hx hb dX11_amountAt_226 (lv_at hl 7 rfl) ?_
                                refine lv_iload hx hb dX11_amountAt_228 (lv_at hl 0 rfl) ?_
                                refine lv_if_eq (tgt := 237) hx hb dX11_amountAt_230 (by decide) (fun _ => ?_) (fun c_230 => absurd c_230 (by decide))
                                refine lv_iconst (v := 0) hx hb dX11_amountAt_237 (by decide) ?_
                                refine lv_iadd hx hb dX11_amountAt_238 ?_
                                refine lv_istore (lv' := [(4, _), (5, _), (7, _), (6, _), (0, _), (1, _), (2, _), (3, _)]) hx hb dX11_amountAt_239 hl (by decide) rfl (fun ls hl => ?_)
                                refine lv_goto (tgt := 59) hx hb dX11_amountAt_241 (by decide) ?_
                                rw [Int32.add_zero] at hl
                                exact ih k false rest part (by rw [if_neg (by decide)]; rw [if_pos rfl] at hm; omega) (by omega) (by omega) hrest (by rw [← hr, if_pos rfl, smF_no hlt etw hnk (by rw [hs]), hs]; rfl) _ _ hP hD hS _ (lv_sub hl [4, 5, 6, 7, 0, 1] rfl)
                              · refine lv_iload hx hb dX11_amountAt_207 (lv_at hl 0 rfl) ?_
                                refine lv_bipush (v := 10) hx hb dX11_amountAt_209 (by decide) ?_
                                refine lv_irem hx hb dX11_amountAt_211 (by decide) ?_
                                refine lv_if_ne (tgt := 223) hx hb dX11_amountAt_212 (by decide) (fun c_212 => ?_) (fun c_212 => ?_)
                                · refine lv_iconst (v := 0) hx hb dX11_amountAt_223 (by decide) ?_
                                  refine lv_istore (lv' := [(5, _), (7, _), (6, _), (0, _), (1, _), (2, _), (3, _), (4, _)]) hx hb dX11_amountAt_224 hl (by decide) rfl (fun ls hl => ?_)
                                  have hs : sumA rest part (nI (k - i)) (wz j 3) = (false, rest, part, nI (k - i)) := by rw [sumA_in hne hrest]; simp [c_173b, c_106, c_132, c_169, c_173, c_178, c_182, c_197, c_204, c_212]
                                  refine lv_iload hx hb dX11_amountAt_226 (lv_at hl 7 rfl) ?_
                                  refine lv_iload hx hb dX11_amountAt_228 (lv_at hl 0 rfl) ?_
                                  refine lv_if_eq (tgt := 237) hx hb dX11_amountAt_230 (by decide) (fun _ => ?_) (fun c_230 => absurd c_230 (by decide))
                                  refine lv_iconst (v := 0) hx hb dX11_amountAt_237 (by decide) ?_
                                  refine lv_iadd hx hb dX11_amountAt_238 ?_
                                  refine lv_istore (lv' := [(4, _), (5, _), (7, _), (6, _), (0, _), (1, _), (2, _), (3, _)]) hx hb dX11_amountAt_239 hl (by decide) rfl (fun ls hl => ?_)
                                  refine lv_goto (tgt := 59) hx hb dX11_amountAt_241 (by decide) ?_
                                  rw [Int32.add_zero] at hl
                                  exact ih k false rest part (by rw [if_neg (by decide)]; rw [if_pos rfl] at hm; omega) (by omega) (by omega) hrest (by rw [← hr, if_pos rfl, smF_no hlt etw hnk (by rw [hs]), hs]; rfl) _ _ hP hD hS _ (lv_sub hl [4, 5, 6, 7, 0, 1] rfl)
                                · refine lv_iload_n hx hb dX11_amountAt_215 rfl (lv_at hl 4 rfl) ?_
                                  refine lv_iload hx hb dX11_amountAt_216 (lv_at hl 1 rfl) ?_
                                  refine lv_iadd hx hb dX11_amountAt_218 ?_
                                  refine lv_istore_n (lv' := [(2, _), (7, _), (6, _), (0, _), (1, _), (3, _), (4, _), (5, _)]) hx hb dX11_amountAt_219 rfl hl (by decide) rfl (fun ls hl => ?_)
                                  refine lv_goto (tgt := 226) hx hb dX11_amountAt_220 (by decide) ?_
                                  have hs : sumA rest part (nI (k - i)) (wz j 3) = (true, rest, part + wz j 3, nI (k - i) + 1) := by rw [sumA_in hne hrest]; simp [c_173b, c_106, c_132, c_169, c_173, c_178, c_182, c_197, c_204, eq_true c_212]
                                  refine lv_iload hx hb dX11_amountAt_226 (lv_at hl 6 rfl) ?_
                                  refine lv_iload hx hb dX11_amountAt_228 (lv_at hl 7 rfl) ?_
                                  refine lv_if_eq (tgt := 237) hx hb dX11_amountAt_230 (by decide) (fun c_230 => absurd c_230 (by decide)) (fun _ => ?_)
                                  refine lv_iconst (v := 1) hx hb dX11_amountAt_233 (by decide) ?_
                                  refine lv_goto (tgt := 238) hx hb dX11_amountAt_234 (by decide) ?_
                                  refine lv_iadd hx hb dX11_amountAt_238 ?_
                                  refine lv_istore (lv' := [(4, _), (2, _), (7, _), (6, _), (0, _), (1, _), (3, _), (5, _)]) hx hb dX11_amountAt_239 hl (by decide) rfl (fun ls hl => ?_)
                                  refine lv_goto (tgt := 59) hx hb dX11_amountAt_241 (by decide) ?_
                                  rw [nI_1] at hl
                                  exact ih (k + 1) true rest (part + wz j 3) (by rw [if_pos rfl]; rw [if_pos rfl] at hm; omega) (by omega) (by omega) (hrest) (by rw [← hr, if_pos rfl, smF_go hlt etw hnk (by rw [hs]), hs, show k + 1 - i = k - i + 1 by omega, ← nI_1]; rfl) _ _ hP hD hS _ (lv_sub hl [4, 5, 1, 6, 0, 7] rfl)
                          · exact absurd c_173b (by rw [c_182]; decide)
                  · refine lv_iload_n hx hb dX11_amountAt_135 rfl (lv_at hl 4 rfl) ?_
                    refine lv_iconst (v := 1) hx hb dX11_amountAt_136 (by decide) ?_
                    refine lv_sipush (v := 999) hx hb dX11_amountAt_137 (by decide) ?_
                    refine ro_S (n := 3) X hK (c_X11_in) gX11_amountAt_X11_in rfl (by decide +kernel) ⟨rfl, rfl⟩ ⟨Nat.le_of_ble_eq_true rfl, Nat.le_of_ble_eq_true rfl⟩ (hP.sub [] rfl) rfl hl.1 rfl (Nat.le_of_ble_eq_true rfl) dX11_amountAt_140 ⟨Nat.zero_le _, Nat.zero_le _⟩ ?_
                    refine lv_if_eq (tgt := 161) hx hb dX11_amountAt_143 (by decide) (fun c_143 => ?_) (fun c_143 => ?_)
                    · replace c_143 := bI_0.mp c_143
                      refine lv_iload hx hb dX11_amountAt_161 (lv_at hl 1 rfl) ?_
                      refine lv_iconst (v := 1) hx hb dX11_amountAt_163 (by decide) ?_
                      refine lv_bipush (v := 99) hx hb dX11_amountAt_164 (by decide) ?_
                      refine ro_S (n := 3) X hK (c_X11_in) gX11_amountAt_X11_in rfl (by decide +kernel) ⟨rfl, rfl⟩ ⟨Nat.le_of_ble_eq_true rfl, Nat.le_of_ble_eq_true rfl⟩ (hP.sub [] rfl) rfl hl.1 rfl (Nat.le_of_ble_eq_true rfl) dX11_amountAt_166 ⟨Nat.zero_le _, Nat.zero_le _⟩ ?_
                      refine lv_if_eq (tgt := 189) hx hb dX11_amountAt_169 (by decide) (fun c_169 => ?_) (fun c_169 => ?_)
                      · replace c_169 := bI_0.mp c_169
                        refine lv_iload hx hb dX11_amountAt_189 (lv_at hl 1 rfl) ?_
                        refine lv_iconst (v := 1) hx hb dX11_amountAt_191 (by decide) ?_
                        refine lv_bipush (v := 9) hx hb dX11_amountAt_192 (by decide) ?_
                        refine ro_S (n := 3) X hK (c_X11_in) gX11_amountAt_X11_in rfl (by decide +kernel) ⟨rfl, rfl⟩ ⟨Nat.le_of_ble_eq_true rfl, Nat.le_of_ble_eq_true rfl⟩ (hP.sub [] rfl) rfl hl.1 rfl (Nat.le_of_ble_eq_true rfl) dX11_amountAt_194 ⟨Nat.zero_le _, Nat.zero_le _⟩ ?_
                        refine lv_if_eq (tgt := 223) hx hb dX11_amountAt_197 (by decide) (fun c_197 => ?_) (fun c_197 => ?_)
                        · replace c_197 := bI_0.mp c_197
                          refine lv_iconst (v := 0) hx hb dX11_amountAt_223 (by decide) ?_
                          refine lv_istore (lv' := [(5, _), (7, _), (6, _), (0, _), (1, _), (2, _), (3, _), (4, _)]) hx hb dX11_amountAt_224 hl (by decide) rfl (fun ls hl => ?_)
                          have hs : sumA rest part (nI (k - i)) (wz j 3) = (false, rest, part, nI (k - i)) := by rw [sumA_in hne hrest]; simp [c_106, eq_true c_132, c_143, c_169, c_197]
                          refine lv_iload hx hb dX11_amountAt_226 (lv_at hl 7 rfl) ?_
                          refine lv_iload hx hb dX11_amountAt_228 (lv_at hl 0 rfl) ?_
                          refine lv_if_eq (tgt := 237) hx hb dX11_amountAt_230 (by decide) (fun _ => ?_) (fun c_230 => absurd c_230 (by decide))
                          refine lv_iconst (v := 0) hx hb dX11_amountAt_237 (by decide) ?_
                          refine lv_iadd hx hb dX11_amountAt_238 ?_
                          refine lv_istore (lv' := [(4, _), (5, _), (7, _), (6, _), (0, _), (1, _), (2, _), (3, _)]) hx hb dX11_amountAt_239 hl (by decide) rfl (fun ls hl => ?_)
                          refine lv_goto (tgt := 59) hx hb dX11_amountAt_241 (by decide) ?_
                          rw [Int32.add_zero] at hl
                          exact ih k false rest part (by rw [if_neg (by decide)]; rw [if_pos rfl] at hm; omega) (by omega) (by omega) hrest (by rw [← hr, if_pos rfl, smF_no hlt etw hnk (by rw [hs]), hs]; rfl) _ _ hP hD hS _ (lv_sub hl [4, 5, 6, 7, 0, 1] rfl)
                        · replace c_197 := bI_n0.mp c_197
                          refine lv_iload hx hb dX11_amountAt_200 (lv_at hl 0 rfl) ?_
                          refine lv_bipush (v := 20) hx hb dX11_amountAt_202 (by decide) ?_
                          refine lv_icmp_lt (tgt := 223) hx hb dX11_amountAt_204 (by decide) (fun c_204 => ?_) (fun c_204 => ?_)
                          · refine lv_iconst (v := 0) hx hb dX11_amountAt_223 (by decide) ?_
                            refine lv_istore (lv' := [(5, _), (7, _), (6, _), (0, _), (1, _), (2, _), (3, _), (4, _)]) hx hb dX11_amountAt_224 hl (by decide) rfl (fun ls hl => ?_)
                            have hs : sumA rest part (nI (k - i)) (wz j 3) = (false, rest, part, nI (k - i)) := by rw [sumA_in hne hrest]; simp [c_106, eq_true c_132, c_143, c_169, c_197, c_204]
                            refine lv_iload hx hb dX11_amountAt_226 (lv_at hl 7 rfl) ?_
                            refine lv_iload hx hb dX11_amountAt_228 (lv_at hl 0 rfl) ?_
                            refine lv_if_eq (tgt := 237) hx hb dX11_amountAt_230 (by decide) (fun _ => ?_) (fun c_230 => absurd c_230 (by decide))
                            refine lv_iconst (v := 0) hx hb dX11_amountAt_237 (by decide) ?_
                            refine lv_iadd hx hb dX11_amountAt_238 ?_
                            refine lv_istore (lv' := [(4, _), (5, _), (7, _), (6, _), (0, _), (1, _), (2, _), (3, _)]) hx hb dX11_amountAt_239 hl (by decide) rfl (fun ls hl => ?_)
                            refine lv_goto (tgt := 59) hx hb dX11_amountAt_241 (by decide) ?_
                            rw [Int32.add_zero] at hl
                            exact ih k false rest part (by rw [if_neg (by decide)]; rw [if_pos rfl] at hm; omega) (by omega) (by omega) hrest (by rw [← hr, if_pos rfl, smF_no hlt etw hnk (by rw [hs]), hs]; rfl) _ _ hP hD hS _ (lv_sub hl [4, 5, 6, 7, 0, 1] rfl)
                          · refine lv_iload hx hb dX11_amountAt_207 (lv_at hl 0 rfl) ?_
                            refine lv_bipush (v := 10) hx hb dX11_amountAt_209 (by decide) ?_
                            refine lv_irem hx hb dX11_amountAt_211 (by decide) ?_
                            refine lv_if_ne (tgt := 223) hx hb dX11_amountAt_212 (by decide) (fun c_212 => ?_) (fun c_212 => ?_)
                            · refine lv_iconst (v := 0) hx hb dX11_amountAt_223 (by decide) ?_
                              refine lv_istore (lv' := [(5, _), (7, _), (6, _), (0, _), (1, _), (2, _), (3, _), (4, _)]) hx hb dX11_amountAt_224 hl (by decide) rfl (fun ls hl => ?_)
                              have hs : sumA rest part (nI (k - i)) (wz j 3) = (false, rest, part, nI (k - i)) := by rw [sumA_in hne hrest]; simp [c_106, eq_true c_132, c_143, c_169, c_197, c_204, c_212]
                              refine lv_iload hx hb dX11_amountAt_226 (lv_at hl 7 rfl) ?_
                              refine lv_iload hx hb dX11_amountAt_228 (lv_at hl 0 rfl) ?_
                              refine lv_if_eq (tgt := 237) hx hb dX11_amountAt_230 (by decide) (fun _ => ?_) (fun c_230 => absurd c_230 (by decide))
                              refine lv_iconst (v := 0) hx hb dX11_amountAt_237 (by decide) ?_
                              refine lv_iadd hx hb dX11_amountAt_238 ?_
                              refine lv_istore (lv' := [(4, _), (5, _), (7, _), (6, _), (0, _), (1, _), (2, _), (3, _)]) hx hb dX11_amountAt_239 hl (by decide) rfl (fun ls hl => ?_)
                              refine lv_goto (tgt := 59) hx hb dX11_amountAt_241 (by decide) ?_
                              rw [Int32.add_zero] at hl
                              exact ih k false rest part (by rw [if_neg (by decide)]; rw [if_pos rfl] at hm; omega) (by omega) (by omega) hrest (by rw [← hr, if_pos rfl, smF_no hlt etw hnk (by rw [hs]), hs]; rfl) _ _ hP hD hS _ (lv_sub hl [4, 5, 6, 7, 0, 1] rfl)
                            · refine lv_iload_n hx hb dX11_amountAt_215 rfl (lv_at hl 4 rfl) ?_
                              refine lv_iload hx hb dX11_amountAt_216 (lv_at hl 1 rfl) ?_
                              refine lv_iadd hx hb dX11_amountAt_218 ?_
                              refine lv_istore_n (lv' := [(2, _), (7, _), (6, _), (0, _), (1, _), (3, _), (4, _), (5, _)]) hx hb dX11_amountAt_219 rfl hl (by decide) rfl (fun ls hl => ?_)
                              refine lv_goto (tgt := 226) hx hb dX11_amountAt_220 (by decide) ?_
                              have hs : sumA rest part (nI (k - i)) (wz j 3) = (true, rest, part + wz j 3, nI (k - i) + 1) := by rw [sumA_in hne hrest]; simp [c_106, eq_true c_132, c_143, c_169, c_197, c_204, eq_true c_212]
                              refine lv_iload hx hb dX11_amountAt_226 (lv_at hl 6 rfl) ?_
                              refine lv_iload hx hb dX11_amountAt_228 (lv_at hl 7 rfl) ?_
                              refine lv_if_eq (tgt := 237) hx hb dX11_amountAt_230 (by decide) (fun c_230 => absurd c_230 (by decide)) (fun _ => ?_)
                              refine lv_iconst (v := 1) hx hb dX11_amountAt_233 (by decide) ?_
                              refine lv_goto (tgt := 238) hx hb dX11_amountAt_234 (by decide) ?_
                              refine lv_iadd hx hb dX11_amountAt_238 ?_
                              refine lv_istore (lv' := [(4, _), (2, _), (7, _), (6, _), (0, _), (1, _), (3, _), (5, _)]) hx hb dX11_amountAt_239 hl (by decide) rfl (fun ls hl => ?_)
                              refine lv_goto (tgt := 59) hx hb dX11_amountAt_241 (by decide) ?_
                              rw [nI_1] at hl
                              exact ih (k + 1) true rest (part + wz j 3) (by rw [if_pos rfl]; rw [if_pos rfl] at hm; omega) (by omega) (by omega) (hrest) (by rw [← hr, if_pos rfl, smF_go hlt etw hnk (by rw [hs]), hs, show k + 1 - i = k - i + 1 by omega, ← nI_1]; rfl) _ _ hP hD hS _ (lv_sub hl [4, 5, 1, 6, 0, 7] rfl)
                      · replace c_169 := bI_n0.mp c_169
                        refine lv_iload_n hx hb dX11_amountAt_172 rfl (lv_at hl 4 rfl) ?_
                        refine lv_if_le (tgt := 181) hx hb dX11_amountAt_173 (by decide) (fun c_173 => ?_) (fun c_173 => ?_)
                        · have c_173b : ¬ 0 < part := Int32.not_lt.mpr c_173
                          refine lv_iload_n hx hb dX11_amountAt_181 rfl (lv_at hl 4 rfl) ?_
                          refine lv_if_ne (tgt := 189) hx hb dX11_amountAt_182 (by decide) (fun c_182 => ?_) (fun c_182 => ?_)
                          · refine lv_iload hx hb dX11_amountAt_189 (lv_at hl 1 rfl) ?_
                            refine lv_iconst (v := 1) hx hb dX11_amountAt_191 (by decide) ?_
                            refine lv_bipush (v := 9) hx hb dX11_amountAt_192 (by decide) ?_
                            refine ro_S (n := 3) X hK (c_X11_in) gX11_amountAt_X11_in rfl (by decide +kernel) ⟨rfl, rfl⟩ ⟨Nat.le_of_ble_eq_true rfl, Nat.le_of_ble_eq_true rfl⟩ (hP.sub [] rfl) rfl hl.1 rfl (Nat.le_of_ble_eq_true rfl) dX11_amountAt_194 ⟨Nat.zero_le _, Nat.zero_le _⟩ ?_
                            refine lv_if_eq (tgt := 223) hx hb dX11_amountAt_197 (by decide) (fun c_197 => ?_) (fun c_197 => ?_)
                            · replace c_197 := bI_0.mp c_197
                              refine lv_iconst (v := 0) hx hb dX11_amountAt_223 (by decide) ?_
                              refine lv_istore (lv' := [(5, _), (7, _), (6, _), (0, _), (1, _), (2, _), (3, _), (4, _)]) hx hb dX11_amountAt_224 hl (by decide) rfl (fun ls hl => ?_)
                              have hs : sumA rest part (nI (k - i)) (wz j 3) = (false, rest, part, nI (k - i)) := by rw [sumA_in hne hrest]; simp [c_173b, c_106, eq_true c_132, c_143, c_169, c_173, c_182, c_197]
                              refine lv_iload hx hb dX11_amountAt_226 (lv_at hl 7 rfl) ?_
                              refine lv_iload hx hb dX11_amountAt_228 (lv_at hl 0 rfl) ?_
                              refine lv_if_eq (tgt := 237) hx hb dX11_amountAt_230 (by decide) (fun _ => ?_) (fun c_230 => absurd c_230 (by decide))
                              refine lv_iconst (v := 0) hx hb dX11_amountAt_237 (by decide) ?_
                              refine lv_iadd hx hb dX11_amountAt_238 ?_
                              refine lv_istore (lv' := [(4, _), (5, _), (7, _), (6, _), (0, _), (1, _), (2, _), (3, _)]) hx hb dX11_amountAt_239 hl (by decide) rfl (fun ls hl => ?_)
                              refine lv_goto (tgt := 59) hx hb dX11_amountAt_241 (by decide) ?_
                              rw [Int32.add_zero] at hl
                              exact ih k false rest part (by rw [if_neg (by decide)]; rw [if_pos rfl] at hm; omega) (by omega) (by omega) hrest (by rw [← hr, if_pos rfl, smF_no hlt etw hnk (by rw [hs]), hs]; rfl) _ _ hP hD hS _ (lv_sub hl [4, 5, 6, 7, 0, 1] rfl)
                            · replace c_197 := bI_n0.mp c_197
                              refine lv_iload hx hb dX11_amountAt_200 (lv_at hl 0 rfl) ?_
                              refine lv_bipush (v := 20) hx hb dX11_amountAt_202 (by decide) ?_
                              refine lv_icmp_lt (tgt := 223) hx hb dX11_amountAt_204 (by decide) (fun c_204 => ?_) (fun c_204 => ?_)
                              · refine lv_iconst (v := 0) hx hb dX11_amountAt_223 (by decide) ?_
                                refine lv_istore (lv' := [(5, _), (7, _), (6, _), (0, _), (1, _), (2, _), (3, _), (4, _)]) hx hb dX11_amountAt_224 hl (by decide) rfl (fun ls hl => ?_)
                                have hs : sumA rest part (nI (k - i)) (wz j 3) = (false, rest, part, nI (k - i)) := by rw [sumA_in hne hrest]; simp [c_173b, c_106, eq_true c_132, c_143, c_169, c_173, c_182, c_197, c_204]
                                refine lv_iload hx hb dX11_amountAt_226 (lv_at hl 7 rfl) ?_
                                refine lv_iload hx hb dX11_amountAt_228 (lv_at hl 0 rfl) ?_
                                refine lv_if_eq (tgt := 237) hx hb dX11_amountAt_230 (by decide) (fun _ => ?_) (fun c_230 => absurd c_230 (by decide))
                                refine lv_iconst (v := 0) hx hb dX11_amountAt_237 (by decide) ?_
                                refine lv_iadd hx hb dX11_amountAt_238 ?_
                                refine lv_istore (lv' := [(4, _), (5, _), (7, _), (6, _), (0, _), (1, _), (2, _), (3, _)]) hx hb dX11_amountAt_239 hl (by decide) rfl (fun ls hl => ?_)
                                refine lv_goto (tgt := 59) hx hb dX11_amountAt_241 (by decide) ?_
                                rw [Int32.add_zero] at hl
                                exact ih k false rest part (by rw [if_neg (by decide)]; rw [if_pos rfl] at hm; omega) (by omega) (by omega) hrest (by rw [← hr, if_pos rfl, smF_no hlt etw hnk (by rw [hs]), hs]; rfl) _ _ hP hD hS _ (lv_sub hl [4, 5, 6, 7, 0, 1] rfl)
                              · refine lv_iload hx hb dX11_amountAt_207 (lv_at hl 0 rfl) ?_
                                refine lv_bipush (v := 10) hx hb dX11_amountAt_209 (by decide) ?_
                                refine lv_irem hx hb dX11_amountAt_211 (by decide) ?_
                                refine lv_if_ne (tgt := 223) hx hb dX11_amountAt_212 (by decide) (fun c_212 => ?_) (fun c_212 => ?_)
                                · refine lv_iconst (v := 0) hx hb dX11_amountAt_223 (by decide) ?_
                                  refine lv_istore (lv' := [(5, _), (7, _), (6, _), (0, _), (1, _), (2, _), (3, _), (4, _)]) hx hb dX11_amountAt_224 hl (by decide) rfl (fun ls hl => ?_)
                                  have hs : sumA rest part (nI (k - i)) (wz j 3) = (false, rest, part, nI (k - i)) := by rw [sumA_in hne hrest]; simp [c_173b, c_106, eq_true c_132, c_143, c_169, c_173, c_182, c_197, c_204, c_212]
                                  refine lv_iload hx hb dX11_amountAt_226 (lv_at hl 7 rfl) ?_
                                  refine lv_iload hx hb dX11_amountAt_228 (lv_at hl 0 rfl) ?_
                                  refine lv_if_eq (tgt := 237) hx hb dX11_amountAt_230 (by decide) (fun _ => ?_) (fun c_230 => absurd c_230 (by decide))
                                  refine lv_iconst (v := 0) hx hb dX11_amountAt_237 (by decide) ?_
                                  refine lv_iadd hx hb dX11_amountAt_238 ?_
                                  refine lv_istore (lv' := [(4, _), (5, _), (7, _), (6, _), (0, _), (1, _), (2, _), (3, _)]) hx hb dX11_amountAt_239 hl (by decide) rfl (fun ls hl => ?_)
                                  refine lv_goto (tgt := 59) hx hb dX11_amountAt_241 (by decide) ?_
                                  rw [Int32.add_zero] at hl
                                  exact ih k false rest part (by rw [if_neg (by decide)]; rw [if_pos rfl] at hm; omega) (by omega) (by omega) hrest (by rw [← hr, if_pos rfl, smF_no hlt etw hnk (by rw [hs]), hs]; rfl) _ _ hP hD hS _ (lv_sub hl [4, 5, 6, 7, 0, 1] rfl)
                                · refine lv_iload_n hx hb dX11_amountAt_215 rfl (lv_at hl 4 rfl) ?_
                                  refine lv_iload hx hb dX11_amountAt_216 (lv_at hl 1 rfl) ?_
                                  refine lv_iadd hx hb dX11_amountAt_218 ?_
                                  refine lv_istore_n (lv' := [(2, _), (7, _), (6, _), (0, _), (1, _), (3, _), (4, _), (5, _)]) hx hb dX11_amountAt_219 rfl hl (by decide) rfl (fun ls hl => ?_)
                                  refine lv_goto (tgt := 226) hx hb dX11_amountAt_220 (by decide) ?_
                                  have hs : sumA rest part (nI (k - i)) (wz j 3) = (true, rest, part + wz j 3, nI (k - i) + 1) := by rw [sumA_in hne hrest]; simp [c_173b, c_106, eq_true c_132, c_143, c_169, c_173, c_182, c_197, c_204, eq_true c_212]
                                  refine lv_iload hx hb dX11_amountAt_226 (lv_at hl 6 rfl) ?_
                                  refine lv_iload hx hb dX11_amountAt_228 (lv_at hl 7 rfl) ?_
                                  refine lv_if_eq (tgt := 237) hx hb dX11_amountAt_230 (by decide) (fun c_230 => absurd c_230 (by decide)) (fun _ => ?_)
                                  refine lv_iconst (v := 1) hx hb dX11_amountAt_233 (by decide) ?_
                                  refine lv_goto (tgt := 238) hx hb dX11_amountAt_234 (by decide) ?_
                                  refine lv_iadd hx hb dX11_amountAt_238 ?_
                                  refine lv_istore (lv' := [(4, _), (2, _), (7, _), (6, _), (0, _), (1, _), (3, _), (5, _)]) hx hb dX11_amountAt_239 hl (by decide) rfl (fun ls hl => ?_)
                                  refine lv_goto (tgt := 59) hx hb dX11_amountAt_241 (by decide) ?_
                                  rw [nI_1] at hl
                                  exact ih (k + 1) true rest (part + wz j 3) (by rw [if_pos rfl]; rw [if_pos rfl] at hm; omega) (by omega) (by omega) (hrest) (by rw [← hr, if_pos rfl, smF_go hlt etw hnk (by rw [hs]), hs, show k + 1 - i = k - i + 1 by omega, ← nI_1]; rfl) _ _ hP hD hS _ (lv_sub hl [4, 5, 1, 6, 0, 7] rfl)
                          · refine lv_iload_n hx hb dX11_amountAt_185 rfl (lv_at hl 5 rfl) ?_
                            refine lv_if_gt (tgt := 215) hx hb dX11_amountAt_186 (by decide) (fun c_186 => ?_) (fun c_186 => ?_)
                            · refine lv_iload_n hx hb dX11_amountAt_215 rfl (lv_at hl 4 rfl) ?_
                              refine lv_iload hx hb dX11_amountAt_216 (lv_at hl 1 rfl) ?_
                              refine lv_iadd hx hb dX11_amountAt_218 ?_
                              refine lv_istore_n (lv' := [(2, _), (7, _), (6, _), (0, _), (1, _), (3, _), (4, _), (5, _)]) hx hb dX11_amountAt_219 rfl hl (by decide) rfl (fun ls hl => ?_)
                              refine lv_goto (tgt := 226) hx hb dX11_amountAt_220 (by decide) ?_
                              have hs : sumA rest part (nI (k - i)) (wz j 3) = (true, rest, part + wz j 3, nI (k - i) + 1) := by rw [sumA_in hne hrest]; simp [c_173b, c_106, eq_true c_132, c_143, c_169, c_173, eq_true c_182, c_186]
                              refine lv_iload hx hb dX11_amountAt_226 (lv_at hl 6 rfl) ?_
                              refine lv_iload hx hb dX11_amountAt_228 (lv_at hl 7 rfl) ?_
                              refine lv_if_eq (tgt := 237) hx hb dX11_amountAt_230 (by decide) (fun c_230 => absurd c_230 (by decide)) (fun _ => ?_)
                              refine lv_iconst (v := 1) hx hb dX11_amountAt_233 (by decide) ?_
                              refine lv_goto (tgt := 238) hx hb dX11_amountAt_234 (by decide) ?_
                              refine lv_iadd hx hb dX11_amountAt_238 ?_
                              refine lv_istore (lv' := [(4, _), (2, _), (7, _), (6, _), (0, _), (1, _), (3, _), (5, _)]) hx hb dX11_amountAt_239 hl (by decide) rfl (fun ls hl => ?_)
                              refine lv_goto (tgt := 59) hx hb dX11_amountAt_241 (by decide) ?_
                              rw [nI_1] at hl
                              exact ih (k + 1) true rest (part + wz j 3) (by rw [if_pos rfl]; rw [if_pos rfl] at hm; omega) (by omega) (by omega) (hrest) (by rw [← hr, if_pos rfl, smF_go hlt etw hnk (by rw [hs]), hs, show k + 1 - i = k - i + 1 by omega, ← nI_1]; rfl) _ _ hP hD hS _ (lv_sub hl [4, 5, 1, 6, 0, 7] rfl)
                            · refine lv_iload hx hb dX11_amountAt_189 (lv_at hl 1 rfl) ?_
                              refine lv_iconst (v := 1) hx hb dX11_amountAt_191 (by decide) ?_
                              refine lv_bipush (v := 9) hx hb dX11_amountAt_192 (by decide) ?_
                              refine ro_S (n := 3) X hK (c_X11_in) gX11_amountAt_X11_in rfl (by decide +kernel) ⟨rfl, rfl⟩ ⟨Nat.le_of_ble_eq_true rfl, Nat.le_of_ble_eq_true rfl⟩ (hP.sub [] rfl) rfl hl.1 rfl (Nat.le_of_ble_eq_true rfl) dX11_amountAt_194 ⟨Nat.zero_le _, Nat.zero_le _⟩ ?_
                              refine lv_if_eq (tgt := 223) hx hb dX11_amountAt_197 (by decide) (fun c_197 => ?_) (fun c_197 => ?_)
                              · replace c_197 := bI_0.mp c_197
                                refine lv_iconst (v := 0) hx hb dX11_amountAt_223 (by decide) ?_
                                refine lv_istore (lv' := [(5, _), (7, _), (6, _), (0, _), (1, _), (2, _), (3, _), (4, _)]) hx hb dX11_amountAt_224 hl (by decide) rfl (fun ls hl => ?_)
                                have hs : sumA rest part (nI (k - i)) (wz j 3) = (false, rest, part, nI (k - i)) := by rw [sumA_in hne hrest]; simp [c_173b, c_106, eq_true c_132, c_143, c_169, c_173, eq_true c_182, c_186, c_197]
                                refine lv_iload hx hb dX11_amountAt_226 (lv_at hl 7 rfl) ?_
                                refine lv_iload hx hb dX11_amountAt_228 (lv_at hl 0 rfl) ?_
                                refine lv_if_eq (tgt := 237) hx hb dX11_amountAt_230 (by decide) (fun _ => ?_) (fun c_230 => absurd c_230 (by decide))
                                refine lv_iconst (v := 0) hx hb dX11_amountAt_237 (by decide) ?_
                                refine lv_iadd hx hb dX11_amountAt_238 ?_
                                refine lv_istore (lv' := [(4, _), (5, _), (7, _), (6, _), (0, _), (1, _), (2, _), (3, _)]) hx hb dX11_amountAt_239 hl (by decide) rfl (fun ls hl => ?_)
                                refine lv_goto (tgt := 59) hx hb dX11_amountAt_241 (by decide) ?_
                                rw [Int32.add_zero] at hl
                                exact ih k false rest part (by rw [if_neg (by decide)]; rw [if_pos rfl] at hm; omega) (by omega) (by omega) hrest (by rw [← hr, if_pos rfl, smF_no hlt etw hnk (by rw [hs]), hs]; rfl) _ _ hP hD hS _ (lv_sub hl [4, 5, 6, 7, 0, 1] rfl)
                              · replace c_197 := bI_n0.mp c_197
                                refine lv_iload hx hb dX11_amountAt_200 (lv_at hl 0 rfl) ?_
                                refine lv_bipush (v := 20) hx hb dX11_amountAt_202 (by decide) ?_
                                refine lv_icmp_lt (tgt := 223) hx hb dX11_amountAt_204 (by decide) (fun c_204 => ?_) (fun c_204 => ?_)
                                · refine lv_iconst (v := 0) hx hb dX11_amountAt_223 (by decide) ?_
                                  refine lv_istore (lv' := [(5, _), (7, _), (6, _), (0, _), (1, _), (2, _), (3, _), (4, _)]) hx hb dX11_amountAt_224 hl (by decide) rfl (fun ls hl => ?_)
                                  have hs : sumA rest part (nI (k - i)) (wz j 3) = (false, rest, part, nI (k - i)) := by rw [sumA_in hne hrest]; simp [c_173b, c_106, eq_true c_132, c_143, c_169, c_173, eq_true c_182, c_186, c_197, c_204]
                                  refine lv_iload hx hb dX11_amountAt_226 (lv_at hl 7 rfl) ?_
                                  refine lv_iload hx hb dX11_amountAt_228 (lv_at hl 0 rfl) ?_
                                  refine lv_if_eq (tgt := 237) hx hb dX11_amountAt_230 (by decide) (fun _ => ?_) (fun c_230 => absurd c_230 (by decide))
                                  refine lv_iconst (v := 0) hx hb dX11_amountAt_237 (by decide) ?_
                                  refine lv_iadd hx hb dX11_amountAt_238 ?_
                                  refine lv_istore (lv' := [(4, _), (5, _), (7, _), (6, _), (0, _), (1, _), (2, _), (3, _)]) hx hb dX11_amountAt_239 hl (by decide) rfl (fun ls hl => ?_)
                                  refine lv_goto (tgt := 59) hx hb dX11_amountAt_241 (by decide) ?_
                                  rw [Int32.add_zero] at hl
                                  exact ih k false rest part (by rw [if_neg (by decide)]; rw [if_pos rfl] at hm; omega) (by omega) (by omega) hrest (by rw [← hr, if_pos rfl, smF_no hlt etw hnk (by rw [hs]), hs]; rfl) _ _ hP hD hS _ (lv_sub hl [4, 5, 6, 7, 0, 1] rfl)
                                · refine lv_iload hx hb dX11_amountAt_207 (lv_at hl 0 rfl) ?_
                                  refine lv_bipush (v := 10) hx hb dX11_amountAt_209 (by decide) ?_
                                  refine lv_irem hx hb dX11_amountAt_211 (by decide) ?_
                                  refine lv_if_ne (tgt := 223) hx hb dX11_amountAt_212 (by decide) (fun c_212 => ?_) (fun c_212 => ?_)
                                  · refine lv_iconst (v := 0) hx hb dX11_amountAt_223 (by decide) ?_
                                    refine lv_istore (lv' := [(5, _), (7, _), (6, _), (0, _), (1, _), (2, _), (3, _), (4, _)]) hx hb dX11_amountAt_224 hl (by decide) rfl (fun ls hl => ?_)
                                    have hs : sumA rest part (nI (k - i)) (wz j 3) = (false, rest, part, nI (k - i)) := by rw [sumA_in hne hrest]; simp [c_173b, c_106, eq_true c_132, c_143, c_169, c_173, eq_true c_182, c_186, c_197, c_204, c_212]
                                    refine lv_iload hx hb dX11_amountAt_226 (lv_at hl 7 rfl) ?_
                                    refine lv_iload hx hb dX11_amountAt_228 (lv_at hl 0 rfl) ?_
                                    refine lv_if_eq (tgt := 237) hx hb dX11_amountAt_230 (by decide) (fun _ => ?_) (fun c_230 => absurd c_230 (by decide))
                                    refine lv_iconst (v := 0) hx hb dX11_amountAt_237 (by decide) ?_
                                    refine lv_iadd hx hb dX11_amountAt_238 ?_
                                    refine lv_istore (lv' := [(4, _), (5, _), (7, _), (6, _), (0, _), (1, _), (2, _), (3, _)]) hx hb dX11_amountAt_239 hl (by decide) rfl (fun ls hl => ?_)
                                    refine lv_goto (tgt := 59) hx hb dX11_amountAt_241 (by decide) ?_
                                    rw [Int32.add_zero] at hl
                                    exact ih k false rest part (by rw [if_neg (by decide)]; rw [if_pos rfl] at hm; omega) (by omega) (by omega) hrest (by rw [← hr, if_pos rfl, smF_no hlt etw hnk (by rw [hs]), hs]; rfl) _ _ hP hD hS _ (lv_sub hl [4, 5, 6, 7, 0, 1] rfl)
                                  · refine lv_iload_n hx hb dX11_amountAt_215 rfl (lv_at hl 4 rfl) ?_
                                    refine lv_iload hx hb dX11_amountAt_216 (lv_at hl 1 rfl) ?_
                                    refine lv_iadd hx hb dX11_amountAt_218 ?_
                                    refine lv_istore_n (lv' := [(2, _), (7, _), (6, _), (0, _), (1, _), (3, _), (4, _), (5, _)]) hx hb dX11_amountAt_219 rfl hl (by decide) rfl (fun ls hl => ?_)
                                    refine lv_goto (tgt := 226) hx hb dX11_amountAt_220 (by decide) ?_
                                    have hs : sumA rest part (nI (k - i)) (wz j 3) = (true, rest, part + wz j 3, nI (k - i) + 1) := by rw [sumA_in hne hrest]; simp [c_173b, c_106, eq_true c_132, c_143, c_169, c_173, eq_true c_182, c_186, c_197, c_204, eq_true c_212]
                                    refine lv_iload hx hb dX11_amountAt_226 (lv_at hl 6 rfl) ?_
                                    refine lv_iload hx hb dX11_amountAt_228 (lv_at hl 7 rfl) ?_
                                    refine lv_if_eq (tgt := 237) hx hb dX11_amountAt_230 (by decide) (fun c_230 => absurd c_230 (by decide)) (fun _ => ?_)
                                    refine lv_iconst (v := 1) hx hb dX11_amountAt_233 (by decide) ?_
                                    refine lv_goto (tgt := 238) hx hb dX11_amountAt_234 (by decide) ?_
                                    refine lv_iadd hx hb dX11_amountAt_238 ?_
                                    refine lv_istore (lv' := [(4, _), (2, _), (7, _), (6, _), (0, _), (1, _), (3, _), (5, _)]) hx hb dX11_amountAt_239 hl (by decide) rfl (fun ls hl => ?_)
                                    refine lv_goto (tgt := 59) hx hb dX11_amountAt_241 (by decide) ?_
                                    rw [nI_1] at hl
                                    exact ih (k + 1) true rest (part + wz j 3) (by rw [if_pos rfl]; rw [if_pos rfl] at hm; omega) (by omega) (by omega) (hrest) (by rw [← hr, if_pos rfl, smF_go hlt etw hnk (by rw [hs]), hs, show k + 1 - i = k - i + 1 by omega, ← nI_1]; rfl) _ _ hP hD hS _ (lv_sub hl [4, 5, 1, 6, 0, 7] rfl)
                        · have c_173b : 0 < part := Int32.not_le.mp c_173
                          refine lv_iload hx hb dX11_amountAt_176 (lv_at hl 0 rfl) ?_
                          refine lv_if_eq (tgt := 215) hx hb dX11_amountAt_178 (by decide) (fun c_178 => ?_) (fun c_178 => ?_)
                          · refine lv_iload_n hx hb dX11_amountAt_215 rfl (lv_at hl 4 rfl) ?_
                            refine lv_iload hx hb dX11_amountAt_216 (lv_at hl 1 rfl) ?_
                            refine lv_iadd hx hb dX11_amountAt_218 ?_
                            refine lv_istore_n (lv' := [(2, _), (7, _), (6, _), (0, _), (1, _), (3, _), (4, _), (5, _)]) hx hb dX11_amountAt_219 rfl hl (by decide) rfl (fun ls hl => ?_)
                            refine lv_goto (tgt := 226) hx hb dX11_amountAt_220 (by decide) ?_
                            have hs : sumA rest part (nI (k - i)) (wz j 3) = (true, rest, part + wz j 3, nI (k - i) + 1) := by rw [sumA_in hne hrest]; simp [c_173b, c_106, eq_true c_132, c_143, c_169, c_173, eq_true c_178]
                            refine lv_iload hx hb dX11_amountAt_226 (lv_at hl 6 rfl) ?_
                            refine lv_iload hx hb dX11_amountAt_228 (lv_at hl 7 rfl) ?_
                            refine lv_if_eq (tgt := 237) hx hb dX11_amountAt_230 (by decide) (fun c_230 => absurd c_230 (by decide)) (fun _ => ?_)
                            refine lv_iconst (v := 1) hx hb dX11_amountAt_233 (by decide) ?_
                            refine lv_goto (tgt := 238) hx hb dX11_amountAt_234 (by decide) ?_
                            refine lv_iadd hx hb dX11_amountAt_238 ?_
                            refine lv_istore (lv' := [(4, _), (2, _), (7, _), (6, _), (0, _), (1, _), (3, _), (5, _)]) hx hb dX11_amountAt_239 hl (by decide) rfl (fun ls hl => ?_)
                            refine lv_goto (tgt := 59) hx hb dX11_amountAt_241 (by decide) ?_
                            rw [nI_1] at hl
                            exact ih (k + 1) true rest (part + wz j 3) (by rw [if_pos rfl]; rw [if_pos rfl] at hm; omega) (by omega) (by omega) (hrest) (by rw [← hr, if_pos rfl, smF_go hlt etw hnk (by rw [hs]), hs, show k + 1 - i = k - i + 1 by omega, ← nI_1]; rfl) _ _ hP hD hS _ (lv_sub hl [4, 5, 1, 6, 0, 7] rfl)
                          · refine lv_iload_n hx hb dX11_amountAt_181 rfl (lv_at hl 4 rfl) ?_
                            refine lv_if_ne (tgt := 189) hx hb dX11_amountAt_182 (by decide) (fun c_182 => ?_) (fun c_182 => ?_)
                            · refine lv_iload hx hb dX11_amountAt_189 (lv_at hl 1 rfl) ?_
                              refine lv_iconst (v := 1) hx hb dX11_amountAt_191 (by decide) ?_
                              refine lv_bipush (v := 9) hx hb dX11_amountAt_192 (by decide) ?_
                              refine ro_S (n := 3) X hK (c_X11_in) gX11_amountAt_X11_in rfl (by decide +kernel) ⟨rfl, rfl⟩ ⟨Nat.le_of_ble_eq_true rfl, Nat.le_of_ble_eq_true rfl⟩ (hP.sub [] rfl) rfl hl.1 rfl (Nat.le_of_ble_eq_true rfl) dX11_amountAt_194 ⟨Nat.zero_le _, Nat.zero_le _⟩ ?_
                              refine lv_if_eq (tgt := 223) hx hb dX11_amountAt_197 (by decide) (fun c_197 => ?_) (fun c_197 => ?_)
                              · replace c_197 := bI_0.mp c_197
                                refine lv_iconst (v := 0) hx hb dX11_amountAt_223 (by decide) ?_
                                refine lv_istore (lv' := [(5, _), (7, _), (6, _), (0, _), (1, _), (2, _), (3, _), (4, _)]) hx hb dX11_amountAt_224 hl (by decide) rfl (fun ls hl => ?_)
                                have hs : sumA rest part (nI (k - i)) (wz j 3) = (false, rest, part, nI (k - i)) := by rw [sumA_in hne hrest]; simp [c_173b, c_106, eq_true c_132, c_143, c_169, c_173, c_178, c_182, c_197]
                                refine lv_iload hx hb dX11_amountAt_226 (lv_at hl 7 rfl) ?_
                                refine lv_iload hx hb dX11_amountAt_228 (lv_at hl 0 rfl) ?_
                                refine lv_if_eq (tgt := 237) hx hb dX11_amountAt_230 (by decide) (fun _ => ?_) (fun c_230 => absurd c_230 (by decide))
                                refine lv_iconst (v := 0) hx hb dX11_amountAt_237 (by decide) ?_
                                refine lv_iadd hx hb dX11_amountAt_238 ?_
                                refine lv_istore (lv' := [(4, _), (5, _), (7, _), (6, _), (0, _), (1, _), (2, _), (3, _)]) hx hb dX11_amountAt_239 hl (by decide) rfl (fun ls hl => ?_)
                                refine lv_goto (tgt := 59) hx hb dX11_amountAt_241 (by decide) ?_
                                rw [Int32.add_zero] at hl
                                exact ih k false rest part (by rw [if_neg (by decide)]; rw [if_pos rfl] at hm; omega) (by omega) (by omega) hrest (by rw [← hr, if_pos rfl, smF_no hlt etw hnk (by rw [hs]), hs]; rfl) _ _ hP hD hS _ (lv_sub hl [4, 5, 6, 7, 0, 1] rfl)
                              · replace c_197 := bI_n0.mp c_197
                                refine lv_iload hx hb dX11_amountAt_200 (lv_at hl 0 rfl) ?_
                                refine lv_bipush (v := 20) hx hb dX11_amountAt_202 (by decide) ?_
                                refine lv_icmp_lt (tgt := 223) hx hb dX11_amountAt_204 (by decide) (fun c_204 => ?_) (fun c_204 => ?_)
                                · refine lv_iconst (v := 0) hx hb dX11_amountAt_223 (by decide) ?_
                                  refine lv_istore (lv' := [(5, _), (7, _), (6, _), (0, _), (1, _), (2, _), (3, _), (4, _)]) hx hb dX11_amountAt_224 hl (by decide) rfl (fun ls hl => ?_)
                                  have hs : sumA rest part (nI (k - i)) (wz j 3) = (false, rest, part, nI (k - i)) := by rw [sumA_in hne hrest]; simp [c_173b, c_106, eq_true c_132, c_143, c_169, c_173, c_178, c_182, c_197, c_204]
                                  refine lv_iload hx hb dX11_amountAt_226 (lv_at hl 7 rfl) ?_
                                  refine lv_iload hx hb dX11_amountAt_228 (lv_at hl 0 rfl) ?_
                                  refine lv_if_eq (tgt := 237) hx hb dX11_amountAt_230 (by decide) (fun _ => ?_) (fun c_230 => absurd c_230 (by decide))
                                  refine lv_iconst (v := 0) hx hb dX11_amountAt_237 (by decide) ?_
                                  refine lv_iadd hx hb dX11_amountAt_238 ?_
                                  refine lv_istore (lv' := [(4, _), (5, _), (7, _), (6, _), (0, _), (1, _), (2, _), (3, _)]) hx hb dX11_amountAt_239 hl (by decide) rfl (fun ls hl => ?_)
                                  refine lv_goto (tgt := 59) hx hb dX11_amountAt_241 (by decide) ?_
                                  rw [Int32.add_zero] at hl
                                  exact ih k false rest part (by rw [if_neg (by decide)]; rw [if_pos rfl] at hm; omega) (by omega) (by omega) hrest (by rw [← hr, if_pos rfl, smF_no hlt etw hnk (by rw [hs]), hs]; rfl) _ _ hP hD hS _ (lv_sub hl [4, 5, 6, 7, 0, 1] rfl)
                                · refine lv_iload hx hb dX11_amountAt_207 (lv_at hl 0 rfl) ?_
                                  refine lv_bipush (v := 10) hx hb dX11_amountAt_209 (by decide) ?_
                                  refine lv_irem hx hb dX11_amountAt_211 (by decide) ?_
                                  refine lv_if_ne (tgt := 223) hx hb dX11_amountAt_212 (by decide) (fun c_212 => ?_) (fun c_212 => ?_)
                                  · refine lv_iconst (v := 0) hx hb dX11_amountAt_223 (by decide) ?_
                                    refine lv_istore (lv' := [(5, _), (7, _), (6, _), (0, _), (1, _), (2, _), (3, _), (4, _)]) hx hb dX11_amountAt_224 hl (by decide) rfl (fun ls hl => ?_)
                                    have hs : sumA rest part (nI (k - i)) (wz j 3) = (false, rest, part, nI (k - i)) := by rw [sumA_in hne hrest]; simp [c_173b, c_106, eq_true c_132, c_143, c_169, c_173, c_178, c_182, c_197, c_204, c_212]
                                    refine lv_iload hx hb dX11_amountAt_226 (lv_at hl 7 rfl) ?_
                                    refine lv_iload hx hb dX11_amountAt_228 (lv_at hl 0 rfl) ?_
                                    refine lv_if_eq (tgt := 237) hx hb dX11_amountAt_230 (by decide) (fun _ => ?_) (fun c_230 => absurd c_230 (by decide))
                                    refine lv_iconst (v := 0) hx hb dX11_amountAt_237 (by decide) ?_
                                    refine lv_iadd hx hb dX11_amountAt_238 ?_
                                    refine lv_istore (lv' := [(4, _), (5, _), (7, _), (6, _), (0, _), (1, _), (2, _), (3, _)]) hx hb dX11_amountAt_239 hl (by decide) rfl (fun ls hl => ?_)
                                    refine lv_goto (tgt := 59) hx hb dX11_amountAt_241 (by decide) ?_
                                    rw [Int32.add_zero] at hl
                                    exact ih k false rest part (by rw [if_neg (by decide)]; rw [if_pos rfl] at hm; omega) (by omega) (by omega) hrest (by rw [← hr, if_pos rfl, smF_no hlt etw hnk (by rw [hs]), hs]; rfl) _ _ hP hD hS _ (lv_sub hl [4, 5, 6, 7, 0, 1] rfl)
                                  · refine lv_iload_n hx hb dX11_amountAt_215 rfl (lv_at hl 4 rfl) ?_
                                    refine lv_iload hx hb dX11_amountAt_216 (lv_at hl 1 rfl) ?_
                                    refine lv_iadd hx hb dX11_amountAt_218 ?_
                                    refine lv_istore_n (lv' := [(2, _), (7, _), (6, _), (0, _), (1, _), (3, _), (4, _), (5, _)]) hx hb dX11_amountAt_219 rfl hl (by decide) rfl (fun ls hl => ?_)
                                    refine lv_goto (tgt := 226) hx hb dX11_amountAt_220 (by decide) ?_
                                    have hs : sumA rest part (nI (k - i)) (wz j 3) = (true, rest, part + wz j 3, nI (k - i) + 1) := by rw [sumA_in hne hrest]; simp [c_173b, c_106, eq_true c_132, c_143, c_169, c_173, c_178, c_182, c_197, c_204, eq_true c_212]
                                    refine lv_iload hx hb dX11_amountAt_226 (lv_at hl 6 rfl) ?_
                                    refine lv_iload hx hb dX11_amountAt_228 (lv_at hl 7 rfl) ?_
                                    refine lv_if_eq (tgt := 237) hx hb dX11_amountAt_230 (by decide) (fun c_230 => absurd c_230 (by decide)) (fun _ => ?_)
                                    refine lv_iconst (v := 1) hx hb dX11_amountAt_233 (by decide) ?_
                                    refine lv_goto (tgt := 238) hx hb dX11_amountAt_234 (by decide) ?_
                                    refine lv_iadd hx hb dX11_amountAt_238 ?_
                                    refine lv_istore (lv' := [(4, _), (2, _), (7, _), (6, _), (0, _), (1, _), (3, _), (5, _)]) hx hb dX11_amountAt_239 hl (by decide) rfl (fun ls hl => ?_)
                                    refine lv_goto (tgt := 59) hx hb dX11_amountAt_241 (by decide) ?_
                                    rw [nI_1] at hl
                                    exact ih (k + 1) true rest (part + wz j 3) (by rw [if_pos rfl]; rw [if_pos rfl] at hm; omega) (by omega) (by omega) (hrest) (by rw [← hr, if_pos rfl, smF_go hlt etw hnk (by rw [hs]), hs, show k + 1 - i = k - i + 1 by omega, ← nI_1]; rfl) _ _ hP hD hS _ (lv_sub hl [4, 5, 1, 6, 0, 7] rfl)
                            · exact absurd c_173b (by rw [c_182]; decide)
                    · replace c_143 := bI_n0.mp c_143
                      refine lv_iload_n hx hb dX11_amountAt_146 rfl (lv_at hl 5 rfl) ?_
                      refine lv_if_ne (tgt := 161) hx hb dX11_amountAt_147 (by decide) (fun c_147 => ?_) (fun c_147 => ?_)
                      · refine lv_iload hx hb dX11_amountAt_161 (lv_at hl 1 rfl) ?_
                        refine lv_iconst (v := 1) hx hb dX11_amountAt_163 (by decide) ?_
                        refine lv_bipush (v := 99) hx hb dX11_amountAt_164 (by decide) ?_
                        refine ro_S (n := 3) X hK (c_X11_in) gX11_amountAt_X11_in rfl (by decide +kernel) ⟨rfl, rfl⟩ ⟨Nat.le_of_ble_eq_true rfl, Nat.le_of_ble_eq_true rfl⟩ (hP.sub [] rfl) rfl hl.1 rfl (Nat.le_of_ble_eq_true rfl) dX11_amountAt_166 ⟨Nat.zero_le _, Nat.zero_le _⟩ ?_
                        refine lv_if_eq (tgt := 189) hx hb dX11_amountAt_169 (by decide) (fun c_169 => ?_) (fun c_169 => ?_)
                        · replace c_169 := bI_0.mp c_169
                          refine lv_iload hx hb dX11_amountAt_189 (lv_at hl 1 rfl) ?_
                          refine lv_iconst (v := 1) hx hb dX11_amountAt_191 (by decide) ?_
                          refine lv_bipush (v := 9) hx hb dX11_amountAt_192 (by decide) ?_
                          refine ro_S (n := 3) X hK (c_X11_in) gX11_amountAt_X11_in rfl (by decide +kernel) ⟨rfl, rfl⟩ ⟨Nat.le_of_ble_eq_true rfl, Nat.le_of_ble_eq_true rfl⟩ (hP.sub [] rfl) rfl hl.1 rfl (Nat.le_of_ble_eq_true rfl) dX11_amountAt_194 ⟨Nat.zero_le _, Nat.zero_le _⟩ ?_
                          refine lv_if_eq (tgt := 223) hx hb dX11_amountAt_197 (by decide) (fun c_197 => ?_) (fun c_197 => ?_)
                          · replace c_197 := bI_0.mp c_197
                            refine lv_iconst (v := 0) hx hb dX11_amountAt_223 (by decide) ?_
                            refine lv_istore (lv' := [(5, _), (7, _), (6, _), (0, _), (1, _), (2, _), (3, _), (4, _)]) hx hb dX11_amountAt_224 hl (by decide) rfl (fun ls hl => ?_)
                            have hs : sumA rest part (nI (k - i)) (wz j 3) = (false, rest, part, nI (k - i)) := by rw [sumA_in hne hrest]; simp [c_106, eq_true c_132, c_143, c_147, c_169, c_197]
                            refine lv_iload hx hb dX11_amountAt_226 (lv_at hl 7 rfl) ?_
                            refine lv_iload hx hb dX11_amountAt_228 (lv_at hl 0 rfl) ?_
                            refine lv_if_eq (tgt := 237) hx hb dX11_amountAt_230 (by decide) (fun _ => ?_) (fun c_230 => absurd c_230 (by decide))
                            refine lv_iconst (v := 0) hx hb dX11_amountAt_237 (by decide) ?_
                            refine lv_iadd hx hb dX11_amountAt_238 ?_
                            refine lv_istore (lv' := [(4, _), (5, _), (7, _), (6, _), (0, _), (1, _), (2, _), (3, _)]) hx hb dX11_amountAt_239 hl (by decide) rfl (fun ls hl => ?_)
                            refine lv_goto (tgt := 59) hx hb dX11_amountAt_241 (by decide) ?_
                            rw [Int32.add_zero] at hl
                            exact ih k false rest part (by rw [if_neg (by decide)]; rw [if_pos rfl] at hm; omega) (by omega) (by omega) hrest (by rw [← hr, if_pos rfl, smF_no hlt etw hnk (by rw [hs]), hs]; rfl) _ _ hP hD hS _ (lv_sub hl [4, 5, 6, 7, 0, 1] rfl)
                          · replace c_197 := bI_n0.mp c_197
                            refine lv_iload hx hb dX11_amountAt_200 (lv_at hl 0 rfl) ?_
                            refine lv_bipush (v := 20) hx hb dX11_amountAt_202 (by decide) ?_
                            refine lv_icmp_lt (tgt := 223) hx hb dX11_amountAt_204 (by decide) (fun c_204 => ?_) (fun c_204 => ?_)
                            · refine lv_iconst (v := 0) hx hb dX11_amountAt_223 (by decide) ?_
                              refine lv_istore (lv' := [(5, _), (7, _), (6, _), (0, _), (1, _), (2, _), (3, _), (4, _)]) hx hb dX11_amountAt_224 hl (by decide) rfl (fun ls hl => ?_)
                              have hs : sumA rest part (nI (k - i)) (wz j 3) = (false, rest, part, nI (k - i)) := by rw [sumA_in hne hrest]; simp [c_106, eq_true c_132, c_143, c_147, c_169, c_197, c_204]
                              refine lv_iload hx hb dX11_amountAt_226 (lv_at hl 7 rfl) ?_
                              refine lv_iload hx hb dX11_amountAt_228 (lv_at hl 0 rfl) ?_
                              refine lv_if_eq (tgt := 237) hx hb dX11_amountAt_230 (by decide) (fun _ => ?_) (fun c_230 => absurd c_230 (by decide))
                              refine lv_iconst (v := 0) hx hb dX11_amountAt_237 (by decide) ?_
                              refine lv_iadd hx hb dX11_amountAt_238 ?_
                              refine lv_istore (lv' := [(4, _), (5, _), (7, _), (6, _), (0, _), (1, _), (2, _), (3, _)]) hx hb dX11_amountAt_239 hl (by decide) rfl (fun ls hl => ?_)
                              refine lv_goto (tgt := 59) hx hb dX11_amountAt_241 (by decide) ?_
                              rw [Int32.add_zero] at hl
                              exact ih k false rest part (by rw [if_neg (by decide)]; rw [if_pos rfl] at hm; omega) (by omega) (by omega) hrest (by rw [← hr, if_pos rfl, smF_no hlt etw hnk (by rw [hs]), hs]; rfl) _ _ hP hD hS _ (lv_sub hl [4, 5, 6, 7, 0, 1] rfl)
                            · refine lv_iload hx hb dX11_amountAt_207 (lv_at hl 0 rfl) ?_
                              refine lv_bipush (v := 10) hx hb dX11_amountAt_209 (by decide) ?_
                              refine lv_irem hx hb dX11_amountAt_211 (by decide) ?_
                              refine lv_if_ne (tgt := 223) hx hb dX11_amountAt_212 (by decide) (fun c_212 => ?_) (fun c_212 => ?_)
                              · refine lv_iconst (v := 0) hx hb dX11_amountAt_223 (by decide) ?_
                                refine lv_istore (lv' := [(5, _), (7, _), (6, _), (0, _), (1, _), (2, _), (3, _), (4, _)]) hx hb dX11_amountAt_224 hl (by decide) rfl (fun ls hl => ?_)
                                have hs : sumA rest part (nI (k - i)) (wz j 3) = (false, rest, part, nI (k - i)) := by rw [sumA_in hne hrest]; simp [c_106, eq_true c_132, c_143, c_147, c_169, c_197, c_204, c_212]
                                refine lv_iload hx hb dX11_amountAt_226 (lv_at hl 7 rfl) ?_
                                refine lv_iload hx hb dX11_amountAt_228 (lv_at hl 0 rfl) ?_
                                refine lv_if_eq (tgt := 237) hx hb dX11_amountAt_230 (by decide) (fun _ => ?_) (fun c_230 => absurd c_230 (by decide))
                                refine lv_iconst (v := 0) hx hb dX11_amountAt_237 (by decide) ?_
                                refine lv_iadd hx hb dX11_amountAt_238 ?_
                                refine lv_istore (lv' := [(4, _), (5, _), (7, _), (6, _), (0, _), (1, _), (2, _), (3, _)]) hx hb dX11_amountAt_239 hl (by decide) rfl (fun ls hl => ?_)
                                refine lv_goto (tgt := 59) hx hb dX11_amountAt_241 (by decide) ?_
                                rw [Int32.add_zero] at hl
                                exact ih k false rest part (by rw [if_neg (by decide)]; rw [if_pos rfl] at hm; omega) (by omega) (by omega) hrest (by rw [← hr, if_pos rfl, smF_no hlt etw hnk (by rw [hs]), hs]; rfl) _ _ hP hD hS _ (lv_sub hl [4, 5, 6, 7, 0, 1] rfl)
                              · refine lv_iload_n hx hb dX11_amountAt_215 rfl (lv_at hl 4 rfl) ?_
                                refine lv_iload hx hb dX11_amountAt_216 (lv_at hl 1 rfl) ?_
                                refine lv_iadd hx hb dX11_amountAt_218 ?_
                                refine lv_istore_n (lv' := [(2, _), (7, _), (6, _), (0, _), (1, _), (3, _), (4, _), (5, _)]) hx hb dX11_amountAt_219 rfl hl (by decide) rfl (fun ls hl => ?_)
                                refine lv_goto (tgt := 226) hx hb dX11_amountAt_220 (by decide) ?_
                                have hs : sumA rest part (nI (k - i)) (wz j 3) = (true, rest, part + wz j 3, nI (k - i) + 1) := by rw [sumA_in hne hrest]; simp [c_106, eq_true c_132, c_143, c_147, c_169, c_197, c_204, eq_true c_212]
                                refine lv_iload hx hb dX11_amountAt_226 (lv_at hl 6 rfl) ?_
                                refine lv_iload hx hb dX11_amountAt_228 (lv_at hl 7 rfl) ?_
                                refine lv_if_eq (tgt := 237) hx hb dX11_amountAt_230 (by decide) (fun c_230 => absurd c_230 (by decide)) (fun _ => ?_)
                                refine lv_iconst (v := 1) hx hb dX11_amountAt_233 (by decide) ?_
                                refine lv_goto (tgt := 238) hx hb dX11_amountAt_234 (by decide) ?_
                                refine lv_iadd hx hb dX11_amountAt_238 ?_
                                refine lv_istore (lv' := [(4, _), (2, _), (7, _), (6, _), (0, _), (1, _), (3, _), (5, _)]) hx hb dX11_amountAt_239 hl (by decide) rfl (fun ls hl => ?_)
                                refine lv_goto (tgt := 59) hx hb dX11_amountAt_241 (by decide) ?_
                                rw [nI_1] at hl
                                exact ih (k + 1) true rest (part + wz j 3) (by rw [if_pos rfl]; rw [if_pos rfl] at hm; omega) (by omega) (by omega) (hrest) (by rw [← hr, if_pos rfl, smF_go hlt etw hnk (by rw [hs]), hs, show k + 1 - i = k - i + 1 by omega, ← nI_1]; rfl) _ _ hP hD hS _ (lv_sub hl [4, 5, 1, 6, 0, 7] rfl)
                        · replace c_169 := bI_n0.mp c_169
                          refine lv_iload_n hx hb dX11_amountAt_172 rfl (lv_at hl 4 rfl) ?_
                          refine lv_if_le (tgt := 181) hx hb dX11_amountAt_173 (by decide) (fun c_173 => ?_) (fun c_173 => ?_)
                          · have c_173b : ¬ 0 < part := Int32.not_lt.mpr c_173
                            refine lv_iload_n hx hb dX11_amountAt_181 rfl (lv_at hl 4 rfl) ?_
                            refine lv_if_ne (tgt := 189) hx hb dX11_amountAt_182 (by decide) (fun c_182 => ?_) (fun c_182 => ?_)
                            · refine lv_iload hx hb dX11_amountAt_189 (lv_at hl 1 rfl) ?_
                              refine lv_iconst (v := 1) hx hb dX11_amountAt_191 (by decide) ?_
                              refine lv_bipush (v := 9) hx hb dX11_amountAt_192 (by decide) ?_
                              refine ro_S (n := 3) X hK (c_X11_in) gX11_amountAt_X11_in rfl (by decide +kernel) ⟨rfl, rfl⟩ ⟨Nat.le_of_ble_eq_true rfl, Nat.le_of_ble_eq_true rfl⟩ (hP.sub [] rfl) rfl hl.1 rfl (Nat.le_of_ble_eq_true rfl) dX11_amountAt_194 ⟨Nat.zero_le _, Nat.zero_le _⟩ ?_
                              refine lv_if_eq (tgt := 223) hx hb dX11_amountAt_197 (by decide) (fun c_197 => ?_) (fun c_197 => ?_)
                              · replace c_197 := bI_0.mp c_197
                                refine lv_iconst (v := 0) hx hb dX11_amountAt_223 (by decide) ?_
                                refine lv_istore (lv' := [(5, _), (7, _), (6, _), (0, _), (1, _), (2, _), (3, _), (4, _)]) hx hb dX11_amountAt_224 hl (by decide) rfl (fun ls hl => ?_)
                                have hs : sumA rest part (nI (k - i)) (wz j 3) = (false, rest, part, nI (k - i)) := by rw [sumA_in hne hrest]; simp [c_173b, c_106, eq_true c_132, c_143, c_147, c_169, c_173, c_182, c_197]
                                refine lv_iload hx hb dX11_amountAt_226 (lv_at hl 7 rfl) ?_
                                refine lv_iload hx hb dX11_amountAt_228 (lv_at hl 0 rfl) ?_
                                refine lv_if_eq (tgt := 237) hx hb dX11_amountAt_230 (by decide) (fun _ => ?_) (fun c_230 => absurd c_230 (by decide))
                                refine lv_iconst (v := 0) hx hb dX11_amountAt_237 (by decide) ?_
                                refine lv_iadd hx hb dX11_amountAt_238 ?_
                                refine lv_istore (lv' := [(4, _), (5, _), (7, _), (6, _), (0, _), (1, _), (2, _), (3, _)]) hx hb dX11_amountAt_239 hl (by decide) rfl (fun ls hl => ?_)
                                refine lv_goto (tgt := 59) hx hb dX11_amountAt_241 (by decide) ?_
                                rw [Int32.add_zero] at hl
                                exact ih k false rest part (by rw [if_neg (by decide)]; rw [if_pos rfl] at hm; omega) (by omega) (by omega) hrest (by rw [← hr, if_pos rfl, smF_no hlt etw hnk (by rw [hs]), hs]; rfl) _ _ hP hD hS _ (lv_sub hl [4, 5, 6, 7, 0, 1] rfl)
                              · replace c_197 := bI_n0.mp c_197
                                refine lv_iload hx hb dX11_amountAt_200 (lv_at hl 0 rfl) ?_
                                refine lv_bipush (v := 20) hx hb dX11_amountAt_202 (by decide) ?_
                                refine lv_icmp_lt (tgt := 223) hx hb dX11_amountAt_204 (by decide) (fun c_204 => ?_) (fun c_204 => ?_)
                                · refine lv_iconst (v := 0) hx hb dX11_amountAt_223 (by decide) ?_
                                  refine lv_istore (lv' := [(5, _), (7, _), (6, _), (0, _), (1, _), (2, _), (3, _), (4, _)]) hx hb dX11_amountAt_224 hl (by decide) rfl (fun ls hl => ?_)
                                  have hs : sumA rest part (nI (k - i)) (wz j 3) = (false, rest, part, nI (k - i)) := by rw [sumA_in hne hrest]; simp [c_173b, c_106, eq_true c_132, c_143, c_147, c_169, c_173, c_182, c_197, c_204]
                                  refine lv_iload hx hb dX11_amountAt_226 (lv_at hl 7 rfl) ?_
                                  refine lv_iload hx hb dX11_amountAt_228 (lv_at hl 0 rfl) ?_
                                  refine lv_if_eq (tgt := 237) hx hb dX11_amountAt_230 (by decide) (fun _ => ?_) (fun c_230 => absurd c_230 (by decide))
                                  refine lv_iconst (v := 0) hx hb dX11_amountAt_237 (by decide) ?_
                                  refine lv_iadd hx hb dX11_amountAt_238 ?_
                                  refine lv_istore (lv' := [(4, _), (5, _), (7, _), (6, _), (0, _), (1, _), (2, _), (3, _)]) hx hb dX11_amountAt_239 hl (by decide) rfl (fun ls hl => ?_)
                                  refine lv_goto (tgt := 59) hx hb dX11_amountAt_241 (by decide) ?_
                                  rw [Int32.add_zero] at hl
                                  exact ih k false rest part (by rw [if_neg (by decide)]; rw [if_pos rfl] at hm; omega) (by omega) (by omega) hrest (by rw [← hr, if_pos rfl, smF_no hlt etw hnk (by rw [hs]), hs]; rfl) _ _ hP hD hS _ (lv_sub hl [4, 5, 6, 7, 0, 1] rfl)
                                · refine lv_iload hx hb dX11_amountAt_207 (lv_at hl 0 rfl) ?_
                                  refine lv_bipush (v := 10) hx hb dX11_amountAt_209 (by decide) ?_
                                  refine lv_irem hx hb dX11_amountAt_211 (by decide) ?_
                                  refine lv_if_ne (tgt := 223) hx hb dX11_amountAt_212 (by decide) (fun c_212 => ?_) (fun c_212 => ?_)
                                  · refine lv_iconst (v := 0) hx hb dX11_amountAt_223 (by decide) ?_
                                    refine lv_istore (lv' := [(5, _), (7, _), (6, _), (0, _), (1, _), (2, _), (3, _), (4, _)]) hx hb dX11_amountAt_224 hl (by decide) rfl (fun ls hl => ?_)
                                    have hs : sumA rest part (nI (k - i)) (wz j 3) = (false, rest, part, nI (k - i)) := by rw [sumA_in hne hrest]; simp [c_173b, c_106, eq_true c_132, c_143, c_147, c_169, c_173, c_182, c_197, c_204, c_212]
                                    refine lv_iload hx hb dX11_amountAt_226 (lv_at hl 7 rfl) ?_
                                    refine lv_iload hx hb dX11_amountAt_228 (lv_at hl 0 rfl) ?_
                                    refine lv_if_eq (tgt := 237) hx hb dX11_amountAt_230 (by decide) (fun _ => ?_) (fun c_230 => absurd c_230 (by decide))
                                    refine lv_iconst (v := 0) hx hb dX11_amountAt_237 (by decide) ?_
                                    refine lv_iadd hx hb dX11_amountAt_238 ?_
                                    refine lv_istore (lv' := [(4, _), (5, _), (7, _), (6, _), (0, _), (1, _), (2, _), (3, _)]) hx hb dX11_amountAt_239 hl (by decide) rfl (fun ls hl => ?_)
                                    refine lv_goto (tgt := 59) hx hb dX11_amountAt_241 (by decide) ?_
                                    rw [Int32.add_zero] at hl
                                    exact ih k false rest part (by rw [if_neg (by decide)]; rw [if_pos rfl] at hm; omega) (by omega) (by omega) hrest (by rw [← hr, if_pos rfl, smF_no hlt etw hnk (by rw [hs]), hs]; rfl) _ _ hP hD hS _ (lv_sub hl [4, 5, 6, 7, 0, 1] rfl)
                                  · refine lv_iload_n hx hb dX11_amountAt_215 rfl (lv_at hl 4 rfl) ?_
                                    refine lv_iload hx hb dX11_amountAt_216 (lv_at hl 1 rfl) ?_
                                    refine lv_iadd hx hb dX11_amountAt_218 ?_
                                    refine lv_istore_n (lv' := [(2, _), (7, _), (6, _), (0, _), (1, _), (3, _), (4, _), (5, _)]) hx hb dX11_amountAt_219 rfl hl (by decide) rfl (fun ls hl => ?_)
                                    refine lv_goto (tgt := 226) hx hb dX11_amountAt_220 (by decide) ?_
                                    have hs : sumA rest part (nI (k - i)) (wz j 3) = (true, rest, part + wz j 3, nI (k - i) + 1) := by rw [sumA_in hne hrest]; simp [c_173b, c_106, eq_true c_132, c_143, c_147, c_169, c_173, c_182, c_197, c_204, eq_true c_212]
                                    refine lv_iload hx hb dX11_amountAt_226 (lv_at hl 6 rfl) ?_
                                    refine lv_iload hx hb dX11_amountAt_228 (lv_at hl 7 rfl) ?_
                                    refine lv_if_eq (tgt := 237) hx hb dX11_amountAt_230 (by decide) (fun c_230 => absurd c_230 (by decide)) (fun _ => ?_)
                                    refine lv_iconst (v := 1) hx hb dX11_amountAt_233 (by decide) ?_
                                    refine lv_goto (tgt := 238) hx hb dX11_amountAt_234 (by decide) ?_
                                    refine lv_iadd hx hb dX11_amountAt_238 ?_
                                    refine lv_istore (lv' := [(4, _), (2, _), (7, _), (6, _), (0, _), (1, _), (3, _), (5, _)]) hx hb dX11_amountAt_239 hl (by decide) rfl (fun ls hl => ?_)
                                    refine lv_goto (tgt := 59) hx hb dX11_amountAt_241 (by decide) ?_
                                    rw [nI_1] at hl
                                    exact ih (k + 1) true rest (part + wz j 3) (by rw [if_pos rfl]; rw [if_pos rfl] at hm; omega) (by omega) (by omega) (hrest) (by rw [← hr, if_pos rfl, smF_go hlt etw hnk (by rw [hs]), hs, show k + 1 - i = k - i + 1 by omega, ← nI_1]; rfl) _ _ hP hD hS _ (lv_sub hl [4, 5, 1, 6, 0, 7] rfl)
                            · refine lv_iload_n hx hb dX11_amountAt_185 rfl (lv_at hl 5 rfl) ?_
                              refine lv_if_gt (tgt := 215) hx hb dX11_amountAt_186 (by decide) (fun c_186 => ?_) (fun c_186 => ?_)
                              · refine lv_iload_n hx hb dX11_amountAt_215 rfl (lv_at hl 4 rfl) ?_
                                refine lv_iload hx hb dX11_amountAt_216 (lv_at hl 1 rfl) ?_
                                refine lv_iadd hx hb dX11_amountAt_218 ?_
                                refine lv_istore_n (lv' := [(2, _), (7, _), (6, _), (0, _), (1, _), (3, _), (4, _), (5, _)]) hx hb dX11_amountAt_219 rfl hl (by decide) rfl (fun ls hl => ?_)
                                refine lv_goto (tgt := 226) hx hb dX11_amountAt_220 (by decide) ?_
                                have hs : sumA rest part (nI (k - i)) (wz j 3) = (true, rest, part + wz j 3, nI (k - i) + 1) := by rw [sumA_in hne hrest]; simp [c_173b, c_106, eq_true c_132, c_143, c_147, c_169, c_173, eq_true c_182, c_186]
                                refine lv_iload hx hb dX11_amountAt_226 (lv_at hl 6 rfl) ?_
                                refine lv_iload hx hb dX11_amountAt_228 (lv_at hl 7 rfl) ?_
                                refine lv_if_eq (tgt := 237) hx hb dX11_amountAt_230 (by decide) (fun c_230 => absurd c_230 (by decide)) (fun _ => ?_)
                                refine lv_iconst (v := 1) hx hb dX11_amountAt_233 (by decide) ?_
                                refine lv_goto (tgt := 238) hx hb dX11_amountAt_234 (by decide) ?_
                                refine lv_iadd hx hb dX11_amountAt_238 ?_
                                refine lv_istore (lv' := [(4, _), (2, _), (7, _), (6, _), (0, _), (1, _), (3, _), (5, _)]) hx hb dX11_amountAt_239 hl (by decide) rfl (fun ls hl => ?_)
                                refine lv_goto (tgt := 59) hx hb dX11_amountAt_241 (by decide) ?_
                                rw [nI_1] at hl
                                exact ih (k + 1) true rest (part + wz j 3) (by rw [if_pos rfl]; rw [if_pos rfl] at hm; omega) (by omega) (by omega) (hrest) (by rw [← hr, if_pos rfl, smF_go hlt etw hnk (by rw [hs]), hs, show k + 1 - i = k - i + 1 by omega, ← nI_1]; rfl) _ _ hP hD hS _ (lv_sub hl [4, 5, 1, 6, 0, 7] rfl)
                              · refine lv_iload hx hb dX11_amountAt_189 (lv_at hl 1 rfl) ?_
                                refine lv_iconst (v := 1) hx hb dX11_amountAt_191 (by decide) ?_
                                refine lv_bipush (v := 9) hx hb dX11_amountAt_192 (by decide) ?_
                                refine ro_S (n := 3) X hK (c_X11_in) gX11_amountAt_X11_in rfl (by decide +kernel) ⟨rfl, rfl⟩ ⟨Nat.le_of_ble_eq_true rfl, Nat.le_of_ble_eq_true rfl⟩ (hP.sub [] rfl) rfl hl.1 rfl (Nat.le_of_ble_eq_true rfl) dX11_amountAt_194 ⟨Nat.zero_le _, Nat.zero_le _⟩ ?_
                                refine lv_if_eq (tgt := 223) hx hb dX11_amountAt_197 (by decide) (fun c_197 => ?_) (fun c_197 => ?_)
                                · replace c_197 := bI_0.mp c_197
                                  refine lv_iconst (v := 0) hx hb dX11_amountAt_223 (by decide) ?_
                                  refine lv_istore (lv' := [(5, _), (7, _), (6, _), (0, _), (1, _), (2, _), (3, _), (4, _)]) hx hb dX11_amountAt_224 hl (by decide) rfl (fun ls hl => ?_)
                                  have hs : sumA rest part (nI (k - i)) (wz j 3) = (false, rest, part, nI (k - i)) := by rw [sumA_in hne hrest]; simp [c_173b, c_106, eq_true c_132, c_143, c_147, c_169, c_173, eq_true c_182, c_186, c_197]
                                  refine lv_iload hx hb dX11_amountAt_226 (lv_at hl 7 rfl) ?_
                                  refine lv_iload hx hb dX11_amountAt_228 (lv_at hl 0 rfl) ?_
                                  refine lv_if_eq (tgt := 237) hx hb dX11_amountAt_230 (by decide) (fun _ => ?_) (fun c_230 => absurd c_230 (by decide))
                                  refine lv_iconst (v := 0) hx hb dX11_amountAt_237 (by decide) ?_
                                  refine lv_iadd hx hb dX11_amountAt_238 ?_
                                  refine lv_istore (lv' := [(4, _), (5, _), (7, _), (6, _), (0, _), (1, _), (2, _), (3, _)]) hx hb dX11_amountAt_239 hl (by decide) rfl (fun ls hl => ?_)
                                  refine lv_goto (tgt := 59) hx hb dX11_amountAt_241 (by decide) ?_
                                  rw [Int32.add_zero] at hl
                                  exact ih k false rest part (by rw [if_neg (by decide)]; rw [if_pos rfl] at hm; omega) (by omega) (by omega) hrest (by rw [← hr, if_pos rfl, smF_no hlt etw hnk (by rw [hs]), hs]; rfl) _ _ hP hD hS _ (lv_sub hl [4, 5, 6, 7, 0, 1] rfl)
                                · replace c_197 := bI_n0.mp c_197
                                  refine lv_iload hx hb dX11_amountAt_200 (lv_at hl 0 rfl) ?_
                                  refine lv_bipush (v := 20) hx hb dX11_amountAt_202 (by decide) ?_
                                  refine lv_icmp_lt (tgt := 223) hx hb dX11_amountAt_204 (by decide) (fun c_204 => ?_) (fun c_204 => ?_)
                                  · refine lv_iconst (v := 0) hx hb dX11_amountAt_223 (by decide) ?_
                                    refine lv_istore (lv' := [(5, _), (7, _), (6, _), (0, _), (1, _), (2, _), (3, _), (4, _)]) hx hb dX11_amountAt_224 hl (by decide) rfl (fun ls hl => ?_)
                                    have hs : sumA rest part (nI (k - i)) (wz j 3) = (false, rest, part, nI (k - i)) := by rw [sumA_in hne hrest]; simp [c_173b, c_106, eq_true c_132, c_143, c_147, c_169, c_173, eq_true c_182, c_186, c_197, c_204]
                                    refine lv_iload hx hb dX11_amountAt_226 (lv_at hl 7 rfl) ?_
                                    refine lv_iload hx hb dX11_amountAt_228 (lv_at hl 0 rfl) ?_
                                    refine lv_if_eq (tgt := 237) hx hb dX11_amountAt_230 (by decide) (fun _ => ?_) (fun c_230 => absurd c_230 (by decide))
                                    refine lv_iconst (v := 0) hx hb dX11_amountAt_237 (by decide) ?_
                                    refine lv_iadd hx hb dX11_amountAt_238 ?_
                                    refine lv_istore (lv' := [(4, _), (5, _), (7, _), (6, _), (0, _), (1, _), (2, _), (3, _)]) hx hb dX11_amountAt_239 hl (by decide) rfl (fun ls hl => ?_)
                                    refine lv_goto (tgt := 59) hx hb dX11_amountAt_241 (by decide) ?_
                                    rw [Int32.add_zero] at hl
                                    exact ih k false rest part (by rw [if_neg (by decide)]; rw [if_pos rfl] at hm; omega) (by omega) (by omega) hrest (by rw [← hr, if_pos rfl, smF_no hlt etw hnk (by rw [hs]), hs]; rfl) _ _ hP hD hS _ (lv_sub hl [4, 5, 6, 7, 0, 1] rfl)
                                  · refine lv_iload hx hb dX11_amountAt_207 (lv_at hl 0 rfl) ?_
                                    refine lv_bipush (v := 10) hx hb dX11_amountAt_209 (by decide) ?_
                                    refine lv_irem hx hb dX11_amountAt_211 (by decide) ?_
                                    refine lv_if_ne (tgt := 223) hx hb dX11_amountAt_212 (by decide) (fun c_212 => ?_) (fun c_212 => ?_)
                                    · refine lv_iconst (v := 0) hx hb dX11_amountAt_223 (by decide) ?_
                                      refine lv_istore (lv' := [(5, _), (7, _), (6, _), (0, _), (1, _), (2, _), (3, _), (4, _)]) hx hb dX11_amountAt_224 hl (by decide) rfl (fun ls hl => ?_)
                                      have hs : sumA rest part (nI (k - i)) (wz j 3) = (false, rest, part, nI (k - i)) := by rw [sumA_in hne hrest]; simp [c_173b, c_106, eq_true c_132, c_143, c_147, c_169, c_173, eq_true c_182, c_186, c_197, c_204, c_212]
                                      refine lv_iload hx hb dX11_amountAt_226 (lv_at hl 7 rfl) ?_
                                      refine lv_iload hx hb dX11_amountAt_228 (lv_at hl 0 rfl) ?_
                                      refine lv_if_eq (tgt := 237) hx hb dX11_amountAt_230 (by decide) (fun _ => ?_) (fun c_230 => absurd c_230 (by decide))
                                      refine lv_iconst (v := 0) hx hb dX11_amountAt_237 (by decide) ?_
                                      refine lv_iadd hx hb dX11_amountAt_238 ?_
                                      refine lv_istore (lv' := [(4, _), (5, _), (7, _), (6, _), (0, _), (1, _), (2, _), (3, _)]) hx hb dX11_amountAt_239 hl (by decide) rfl (fun ls hl => ?_)
                                      refine lv_goto (tgt := 59) hx hb dX11_amountAt_241 (by decide) ?_
                                      rw [Int32.add_zero] at hl
                                      exact ih k false rest part (by rw [if_neg (by decide)]; rw [if_pos rfl] at hm; omega) (by omega) (by omega) hrest (by rw [← hr, if_pos rfl, smF_no hlt etw hnk (by rw [hs]), hs]; rfl) _ _ hP hD hS _ (lv_sub hl [4, 5, 6, 7, 0, 1] rfl)
                                    · refine lv_iload_n hx hb dX11_amountAt_215 rfl (lv_at hl 4 rfl) ?_
                                      refine lv_iload hx hb dX11_amountAt_216 (lv_at hl 1 rfl) ?_
                                      refine lv_iadd hx hb dX11_amountAt_218 ?_
                                      refine lv_istore_n (lv' := [(2, _), (7, _), (6, _), (0, _), (1, _), (3, _), (4, _), (5, _)]) hx hb dX11_amountAt_219 rfl hl (by decide) rfl (fun ls hl => ?_)
                                      refine lv_goto (tgt := 226) hx hb dX11_amountAt_220 (by decide) ?_
                                      have hs : sumA rest part (nI (k - i)) (wz j 3) = (true, rest, part + wz j 3, nI (k - i) + 1) := by rw [sumA_in hne hrest]; simp [c_173b, c_106, eq_true c_132, c_143, c_147, c_169, c_173, eq_true c_182, c_186, c_197, c_204, eq_true c_212]
                                      refine lv_iload hx hb dX11_amountAt_226 (lv_at hl 6 rfl) ?_
                                      refine lv_iload hx hb dX11_amountAt_228 (lv_at hl 7 rfl) ?_
                                      refine lv_if_eq (tgt := 237) hx hb dX11_amountAt_230 (by decide) (fun c_230 => absurd c_230 (by decide)) (fun _ => ?_)
                                      refine lv_iconst (v := 1) hx hb dX11_amountAt_233 (by decide) ?_
                                      refine lv_goto (tgt := 238) hx hb dX11_amountAt_234 (by decide) ?_
                                      refine lv_iadd hx hb dX11_amountAt_238 ?_
                                      refine lv_istore (lv' := [(4, _), (2, _), (7, _), (6, _), (0, _), (1, _), (3, _), (5, _)]) hx hb dX11_amountAt_239 hl (by decide) rfl (fun ls hl => ?_)
                                      refine lv_goto (tgt := 59) hx hb dX11_amountAt_241 (by decide) ?_
                                      rw [nI_1] at hl
                                      exact ih (k + 1) true rest (part + wz j 3) (by rw [if_pos rfl]; rw [if_pos rfl] at hm; omega) (by omega) (by omega) (hrest) (by rw [← hr, if_pos rfl, smF_go hlt etw hnk (by rw [hs]), hs, show k + 1 - i = k - i + 1 by omega, ← nI_1]; rfl) _ _ hP hD hS _ (lv_sub hl [4, 5, 1, 6, 0, 7] rfl)
                          · have c_173b : 0 < part := Int32.not_le.mp c_173
                            refine lv_iload hx hb dX11_amountAt_176 (lv_at hl 0 rfl) ?_
                            refine lv_if_eq (tgt := 215) hx hb dX11_amountAt_178 (by decide) (fun c_178 => ?_) (fun c_178 => ?_)
                            · refine lv_iload_n hx hb dX11_amountAt_215 rfl (lv_at hl 4 rfl) ?_
                              refine lv_iload hx hb dX11_amountAt_216 (lv_at hl 1 rfl) ?_
                              refine lv_iadd hx hb dX11_amountAt_218 ?_
                              refine lv_istore_n (lv' := [(2, _), (7, _), (6, _), (0, _), (1, _), (3, _), (4, _), (5, _)]) hx hb dX11_amountAt_219 rfl hl (by decide) rfl (fun ls hl => ?_)
                              refine lv_goto (tgt := 226) hx hb dX11_amountAt_220 (by decide) ?_
                              have hs : sumA rest part (nI (k - i)) (wz j 3) = (true, rest, part + wz j 3, nI (k - i) + 1) := by rw [sumA_in hne hrest]; simp [c_173b, c_106, eq_true c_132, c_143, c_147, c_169, c_173, eq_true c_178]
                              refine lv_iload hx hb dX11_amountAt_226 (lv_at hl 6 rfl) ?_
                              refine lv_iload hx hb dX11_amountAt_228 (lv_at hl 7 rfl) ?_
                              refine lv_if_eq (tgt := 237) hx hb dX11_amountAt_230 (by decide) (fun c_230 => absurd c_230 (by decide)) (fun _ => ?_)
                              refine lv_iconst (v := 1) hx hb dX11_amountAt_233 (by decide) ?_
                              refine lv_goto (tgt := 238) hx hb dX11_amountAt_234 (by decide) ?_
                              refine lv_iadd hx hb dX11_amountAt_238 ?_
                              refine lv_istore (lv' := [(4, _), (2, _), (7, _), (6, _), (0, _), (1, _), (3, _), (5, _)]) hx hb dX11_amountAt_239 hl (by decide) rfl (fun ls hl => ?_)
                              refine lv_goto (tgt := 59) hx hb dX11_amountAt_241 (by decide) ?_
                              rw [nI_1] at hl
                              exact ih (k + 1) true rest (part + wz j 3) (by rw [if_pos rfl]; rw [if_pos rfl] at hm; omega) (by omega) (by omega) (hrest) (by rw [← hr, if_pos rfl, smF_go hlt etw hnk (by rw [hs]), hs, show k + 1 - i = k - i + 1 by omega, ← nI_1]; rfl) _ _ hP hD hS _ (lv_sub hl [4, 5, 1, 6, 0, 7] rfl)
                            · refine lv_iload_n hx hb dX11_amountAt_181 rfl (lv_at hl 4 rfl) ?_
                              refine lv_if_ne (tgt := 189) hx hb dX11_amountAt_182 (by decide) (fun c_182 => ?_) (fun c_182 => ?_)
                              · refine lv_iload hx hb dX11_amountAt_189 (lv_at hl 1 rfl) ?_
                                refine lv_iconst (v := 1) hx hb dX11_amountAt_191 (by decide) ?_
                                refine lv_bipush (v := 9) hx hb dX11_amountAt_192 (by decide) ?_
                                refine ro_S (n := 3) X hK (c_X11_in) gX11_amountAt_X11_in rfl (by decide +kernel) ⟨rfl, rfl⟩ ⟨Nat.le_of_ble_eq_true rfl, Nat.le_of_ble_eq_true rfl⟩ (hP.sub [] rfl) rfl hl.1 rfl (Nat.le_of_ble_eq_true rfl) dX11_amountAt_194 ⟨Nat.zero_le _, Nat.zero_le _⟩ ?_
                                refine lv_if_eq (tgt := 223) hx hb dX11_amountAt_197 (by decide) (fun c_197 => ?_) (fun c_197 => ?_)
                                · replace c_197 := bI_0.mp c_197
                                  refine lv_iconst (v := 0) hx hb dX11_amountAt_223 (by decide) ?_
                                  refine lv_istore (lv' := [(5, _), (7, _), (6, _), (0, _), (1, _), (2, _), (3, _), (4, _)]) hx hb dX11_amountAt_224 hl (by decide) rfl (fun ls hl => ?_)
                                  have hs : sumA rest part (nI (k - i)) (wz j 3) = (false, rest, part, nI (k - i)) := by rw [sumA_in hne hrest]; simp [c_173b, c_106, eq_true c_132, c_143, c_147, c_169, c_173, c_178, c_182, c_197]
                                  refine lv_iload hx hb dX11_amountAt_226 (lv_at hl 7 rfl) ?_
                                  refine lv_iload hx hb dX11_amountAt_228 (lv_at hl 0 rfl) ?_
                                  refine lv_if_eq (tgt := 237) hx hb dX11_amountAt_230 (by decide) (fun _ => ?_) (fun c_230 => absurd c_230 (by decide))
                                  refine lv_iconst (v := 0) hx hb dX11_amountAt_237 (by decide) ?_
                                  refine lv_iadd hx hb dX11_amountAt_238 ?_
                                  refine lv_istore (lv' := [(4, _), (5, _), (7, _), (6, _), (0, _), (1, _), (2, _), (3, _)]) hx hb dX11_amountAt_239 hl (by decide) rfl (fun ls hl => ?_)
                                  refine lv_goto (tgt := 59) hx hb dX11_amountAt_241 (by decide) ?_
                                  rw [Int32.add_zero] at hl
                                  exact ih k false rest part (by rw [if_neg (by decide)]; rw [if_pos rfl] at hm; omega) (by omega) (by omega) hrest (by rw [← hr, if_pos rfl, smF_no hlt etw hnk (by rw [hs]), hs]; rfl) _ _ hP hD hS _ (lv_sub hl [4, 5, 6, 7, 0, 1] rfl)
                                · replace c_197 := bI_n0.mp c_197
                                  refine lv_iload hx hb dX11_amountAt_200 (lv_at hl 0 rfl) ?_
                                  refine lv_bipush (v := 20) hx hb dX11_amountAt_202 (by decide) ?_
                                  refine lv_icmp_lt (tgt := 223) hx hb dX11_amountAt_204 (by decide) (fun c_204 => ?_) (fun c_204 => ?_)
                                  · refine lv_iconst (v := 0) hx hb dX11_amountAt_223 (by decide) ?_
                                    refine lv_istore (lv' := [(5, _), (7, _), (6, _), (0, _), (1, _), (2, _), (3, _), (4, _)]) hx hb dX11_amountAt_224 hl (by decide) rfl (fun ls hl => ?_)
                                    have hs : sumA rest part (nI (k - i)) (wz j 3) = (false, rest, part, nI (k - i)) := by rw [sumA_in hne hrest]; simp [c_173b, c_106, eq_true c_132, c_143, c_147, c_169, c_173, c_178, c_182, c_197, c_204]
                                    refine lv_iload hx hb dX11_amountAt_226 (lv_at hl 7 rfl) ?_
                                    refine lv_iload hx hb dX11_amountAt_228 (lv_at hl 0 rfl) ?_
                                    refine lv_if_eq (tgt := 237) hx hb dX11_amountAt_230 (by decide) (fun _ => ?_) (fun c_230 => absurd c_230 (by decide))
                                    refine lv_iconst (v := 0) hx hb dX11_amountAt_237 (by decide) ?_
                                    refine lv_iadd hx hb dX11_amountAt_238 ?_
                                    refine lv_istore (lv' := [(4, _), (5, _), (7, _), (6, _), (0, _), (1, _), (2, _), (3, _)]) hx hb dX11_amountAt_239 hl (by decide) rfl (fun ls hl => ?_)
                                    refine lv_goto (tgt := 59) hx hb dX11_amountAt_241 (by decide) ?_
                                    rw [Int32.add_zero] at hl
                                    exact ih k false rest part (by rw [if_neg (by decide)]; rw [if_pos rfl] at hm; omega) (by omega) (by omega) hrest (by rw [← hr, if_pos rfl, smF_no hlt etw hnk (by rw [hs]), hs]; rfl) _ _ hP hD hS _ (lv_sub hl [4, 5, 6, 7, 0, 1] rfl)
                                  · refine lv_iload hx hb dX11_amountAt_207 (lv_at hl 0 rfl) ?_
                                    refine lv_bipush (v := 10) hx hb dX11_amountAt_209 (by decide) ?_
                                    refine lv_irem hx hb dX11_amountAt_211 (by decide) ?_
                                    refine lv_if_ne (tgt := 223) hx hb dX11_amountAt_212 (by decide) (fun c_212 => ?_) (fun c_212 => ?_)
                                    · refine lv_iconst (v := 0) hx hb dX11_amountAt_223 (by decide) ?_
                                      refine lv_istore (lv' := [(5, _), (7, _), (6, _), (0, _), (1, _), (2, _), (3, _), (4, _)]) hx hb dX11_amountAt_224 hl (by decide) rfl (fun ls hl => ?_)
                                      have hs : sumA rest part (nI (k - i)) (wz j 3) = (false, rest, part, nI (k - i)) := by rw [sumA_in hne hrest]; simp [c_173b, c_106, eq_true c_132, c_143, c_147, c_169, c_173, c_178, c_182, c_197, c_204, c_212]
                                      refine lv_iload hx hb dX11_amountAt_226 (lv_at hl 7 rfl) ?_
                                      refine lv_iload hx hb dX11_amountAt_228 (lv_at hl 0 rfl) ?_
                                      refine lv_if_eq (tgt := 237) hx hb dX11_amountAt_230 (by decide) (fun _ => ?_) (fun c_230 => absurd c_230 (by decide))
                                      refine lv_iconst (v := 0) hx hb dX11_amountAt_237 (by decide) ?_
                                      refine lv_iadd hx hb dX11_amountAt_238 ?_
                                      refine lv_istore (lv' := [(4, _), (5, _), (7, _), (6, _), (0, _), (1, _), (2, _), (3, _)]) hx hb dX11_amountAt_239 hl (by decide) rfl (fun ls hl => ?_)
                                      refine lv_goto (tgt := 59) hx hb dX11_amountAt_241 (by decide) ?_
                                      rw [Int32.add_zero] at hl
                                      exact ih k false rest part (by rw [if_neg (by decide)]; rw [if_pos rfl] at hm; omega) (by omega) (by omega) hrest (by rw [← hr, if_pos rfl, smF_no hlt etw hnk (by rw [hs]), hs]; rfl) _ _ hP hD hS _ (lv_sub hl [4, 5, 6, 7, 0, 1] rfl)
                                    · refine lv_iload_n hx hb dX11_amountAt_215 rfl (lv_at hl 4 rfl) ?_
                                      refine lv_iload hx hb dX11_amountAt_216 (lv_at hl 1 rfl) ?_
                                      refine lv_iadd hx hb dX11_amountAt_218 ?_
                                      refine lv_istore_n (lv' := [(2, _), (7, _), (6, _), (0, _), (1, _), (3, _), (4, _), (5, _)]) hx hb dX11_amountAt_219 rfl hl (by decide) rfl (fun ls hl => ?_)
                                      refine lv_goto (tgt := 226) hx hb dX11_amountAt_220 (by decide) ?_
                                      have hs : sumA rest part (nI (k - i)) (wz j 3) = (true, rest, part + wz j 3, nI (k - i) + 1) := by rw [sumA_in hne hrest]; simp [c_173b, c_106, eq_true c_132, c_143, c_147, c_169, c_173, c_178, c_182, c_197, c_204, eq_true c_212]
                                      refine lv_iload hx hb dX11_amountAt_226 (lv_at hl 6 rfl) ?_
                                      refine lv_iload hx hb dX11_amountAt_228 (lv_at hl 7 rfl) ?_
                                      refine lv_if_eq (tgt := 237) hx hb dX11_amountAt_230 (by decide) (fun c_230 => absurd c_230 (by decide)) (fun _ => ?_)
                                      refine lv_iconst (v := 1) hx hb dX11_amountAt_233 (by decide) ?_
                                      refine lv_goto (tgt := 238) hx hb dX11_amountAt_234 (by decide) ?_
                                      refine lv_iadd hx hb dX11_amountAt_238 ?_
                                      refine lv_istore (lv' := [(4, _), (2, _), (7, _), (6, _), (0, _), (1, _), (3, _), (5, _)]) hx hb dX11_amountAt_239 hl (by decide) rfl (fun ls hl => ?_)
                                      refine lv_goto (tgt := 59) hx hb dX11_amountAt_241 (by decide) ?_
                                      rw [nI_1] at hl
                                      exact ih (k + 1) true rest (part + wz j 3) (by rw [if_pos rfl]; rw [if_pos rfl] at hm; omega) (by omega) (by omega) (hrest) (by rw [← hr, if_pos rfl, smF_go hlt etw hnk (by rw [hs]), hs, show k + 1 - i = k - i + 1 by omega, ← nI_1]; rfl) _ _ hP hD hS _ (lv_sub hl [4, 5, 1, 6, 0, 7] rfl)
                              · exact absurd c_173b (by rw [c_182]; decide)
                      · refine lv_sipush (v := 1000) hx hb dX11_amountAt_150 (by decide) ?_
                        refine lv_iload_n hx hb dX11_amountAt_153 rfl (lv_at hl 4 rfl) ?_
                        refine lv_imul hx hb dX11_amountAt_154 ?_
                        refine lv_istore_n (lv' := [(3, _), (7, _), (6, _), (0, _), (1, _), (2, _), (4, _), (5, _)]) hx hb dX11_amountAt_155 rfl hl (by decide) rfl (fun ls hl => ?_)
                        refine lv_iconst (v := 0) hx hb dX11_amountAt_156 (by decide) ?_
                        refine lv_istore_n (lv' := [(2, _), (3, _), (7, _), (6, _), (0, _), (1, _), (4, _), (5, _)]) hx hb dX11_amountAt_157 rfl hl (by decide) rfl (fun ls hl => ?_)
                        refine lv_goto (tgt := 226) hx hb dX11_amountAt_158 (by decide) ?_
                        have hs : sumA rest part (nI (k - i)) (wz j 3) = (true, 1000 * part, 0, nI (k - i) + 1) := by rw [sumA_in hne hrest]; simp [c_106, eq_true c_132, c_143, eq_true c_147]
                        refine lv_iload hx hb dX11_amountAt_226 (lv_at hl 6 rfl) ?_
                        refine lv_iload hx hb dX11_amountAt_228 (lv_at hl 7 rfl) ?_
                        refine lv_if_eq (tgt := 237) hx hb dX11_amountAt_230 (by decide) (fun c_230 => absurd c_230 (by decide)) (fun _ => ?_)
                        refine lv_iconst (v := 1) hx hb dX11_amountAt_233 (by decide) ?_
                        refine lv_goto (tgt := 238) hx hb dX11_amountAt_234 (by decide) ?_
                        refine lv_iadd hx hb dX11_amountAt_238 ?_
                        refine lv_istore (lv' := [(4, _), (2, _), (3, _), (7, _), (6, _), (0, _), (1, _), (5, _)]) hx hb dX11_amountAt_239 hl (by decide) rfl (fun ls hl => ?_)
                        refine lv_goto (tgt := 59) hx hb dX11_amountAt_241 (by decide) ?_
                        rw [nI_1] at hl
                        exact ih (k + 1) true (1000 * part) 0 (by rw [if_pos rfl]; rw [if_pos rfl] at hm; omega) (by omega) (by omega) (h1000 c_143) (by rw [← hr, if_pos rfl, smF_go hlt etw hnk (by rw [hs]), hs, show k + 1 - i = k - i + 1 by omega, ← nI_1]; rfl) _ _ hP hD hS _ (lv_sub hl [5, 6, 1, 2, 0, 7] rfl)
                · refine lv_iload_n hx hb dX11_amountAt_109 rfl (lv_at hl 4 rfl) ?_
                  refine lv_iconst (v := 1) hx hb dX11_amountAt_110 (by decide) ?_
                  refine lv_bipush (v := 9) hx hb dX11_amountAt_111 (by decide) ?_
                  refine ro_S (n := 3) X hK (c_X11_in) gX11_amountAt_X11_in rfl (by decide +kernel) ⟨rfl, rfl⟩ ⟨Nat.le_of_ble_eq_true rfl, Nat.le_of_ble_eq_true rfl⟩ (hP.sub [] rfl) rfl hl.1 rfl (Nat.le_of_ble_eq_true rfl) dX11_amountAt_113 ⟨Nat.zero_le _, Nat.zero_le _⟩ ?_
                  refine lv_if_eq (tgt := 127) hx hb dX11_amountAt_116 (by decide) (fun c_116 => ?_) (fun c_116 => ?_)
                  · replace c_116 := bI_0.mp c_116
                    refine lv_iload hx hb dX11_amountAt_127 (lv_at hl 1 rfl) ?_
                    refine lv_sipush (v := 1000) hx hb dX11_amountAt_129 (by decide) ?_
                    refine lv_icmp_ne (tgt := 161) hx hb dX11_amountAt_132 (by decide) (fun c_132 => ?_) (fun c_132 => ?_)
                    · refine lv_iload hx hb dX11_amountAt_161 (lv_at hl 1 rfl) ?_
                      refine lv_iconst (v := 1) hx hb dX11_amountAt_163 (by decide) ?_
                      refine lv_bipush (v := 99) hx hb dX11_amountAt_164 (by decide) ?_
                      refine ro_S (n := 3) X hK (c_X11_in) gX11_amountAt_X11_in rfl (by decide +kernel) ⟨rfl, rfl⟩ ⟨Nat.le_of_ble_eq_true rfl, Nat.le_of_ble_eq_true rfl⟩ (hP.sub [] rfl) rfl hl.1 rfl (Nat.le_of_ble_eq_true rfl) dX11_amountAt_166 ⟨Nat.zero_le _, Nat.zero_le _⟩ ?_
                      refine lv_if_eq (tgt := 189) hx hb dX11_amountAt_169 (by decide) (fun c_169 => ?_) (fun c_169 => ?_)
                      · replace c_169 := bI_0.mp c_169
                        refine lv_iload hx hb dX11_amountAt_189 (lv_at hl 1 rfl) ?_
                        refine lv_iconst (v := 1) hx hb dX11_amountAt_191 (by decide) ?_
                        refine lv_bipush (v := 9) hx hb dX11_amountAt_192 (by decide) ?_
                        refine ro_S (n := 3) X hK (c_X11_in) gX11_amountAt_X11_in rfl (by decide +kernel) ⟨rfl, rfl⟩ ⟨Nat.le_of_ble_eq_true rfl, Nat.le_of_ble_eq_true rfl⟩ (hP.sub [] rfl) rfl hl.1 rfl (Nat.le_of_ble_eq_true rfl) dX11_amountAt_194 ⟨Nat.zero_le _, Nat.zero_le _⟩ ?_
                        refine lv_if_eq (tgt := 223) hx hb dX11_amountAt_197 (by decide) (fun c_197 => ?_) (fun c_197 => ?_)
                        · replace c_197 := bI_0.mp c_197
                          refine lv_iconst (v := 0) hx hb dX11_amountAt_223 (by decide) ?_
                          refine lv_istore (lv' := [(5, _), (7, _), (6, _), (0, _), (1, _), (2, _), (3, _), (4, _)]) hx hb dX11_amountAt_224 hl (by decide) rfl (fun ls hl => ?_)
                          have hs : sumA rest part (nI (k - i)) (wz j 3) = (false, rest, part, nI (k - i)) := by rw [sumA_in hne hrest]; simp [eq_true c_106, c_116, c_132, c_169, c_197]
                          refine lv_iload hx hb dX11_amountAt_226 (lv_at hl 7 rfl) ?_
                          refine lv_iload hx hb dX11_amountAt_228 (lv_at hl 0 rfl) ?_
                          refine lv_if_eq (tgt := 237) hx hb dX11_amountAt_230 (by decide) (fun _ => ?_) (fun c_230 => absurd c_230 (by decide))
                          refine lv_iconst (v := 0) hx hb dX11_amountAt_237 (by decide) ?_
                          refine lv_iadd hx hb dX11_amountAt_238 ?_
                          refine lv_istore (lv' := [(4, _), (5, _), (7, _), (6, _), (0, _), (1, _), (2, _), (3, _)]) hx hb dX11_amountAt_239 hl (by decide) rfl (fun ls hl => ?_)
                          refine lv_goto (tgt := 59) hx hb dX11_amountAt_241 (by decide) ?_
                          rw [Int32.add_zero] at hl
                          exact ih k false rest part (by rw [if_neg (by decide)]; rw [if_pos rfl] at hm; omega) (by omega) (by omega) hrest (by rw [← hr, if_pos rfl, smF_no hlt etw hnk (by rw [hs]), hs]; rfl) _ _ hP hD hS _ (lv_sub hl [4, 5, 6, 7, 0, 1] rfl)
                        · replace c_197 := bI_n0.mp c_197
                          refine lv_iload hx hb dX11_amountAt_200 (lv_at hl 0 rfl) ?_
                          refine lv_bipush (v := 20) hx hb dX11_amountAt_202 (by decide) ?_
                          refine lv_icmp_lt (tgt := 223) hx hb dX11_amountAt_204 (by decide) (fun c_204 => ?_) (fun c_204 => ?_)
                          · refine lv_iconst (v := 0) hx hb dX11_amountAt_223 (by decide) ?_
                            refine lv_istore (lv' := [(5, _), (7, _), (6, _), (0, _), (1, _), (2, _), (3, _), (4, _)]) hx hb dX11_amountAt_224 hl (by decide) rfl (fun ls hl => ?_)
                            have hs : sumA rest part (nI (k - i)) (wz j 3) = (false, rest, part, nI (k - i)) := by rw [sumA_in hne hrest]; simp [eq_true c_106, c_116, c_132, c_169, c_197, c_204]
                            refine lv_iload hx hb dX11_amountAt_226 (lv_at hl 7 rfl) ?_
                            refine lv_iload hx hb dX11_amountAt_228 (lv_at hl 0 rfl) ?_
                            refine lv_if_eq (tgt := 237) hx hb dX11_amountAt_230 (by decide) (fun _ => ?_) (fun c_230 => absurd c_230 (by decide))
                            refine lv_iconst (v := 0) hx hb dX11_amountAt_237 (by decide) ?_
                            refine lv_iadd hx hb dX11_amountAt_238 ?_
                            refine lv_istore (lv' := [(4, _), (5, _), (7, _), (6, _), (0, _), (1, _), (2, _), (3, _)]) hx hb dX11_amountAt_239 hl (by decide) rfl (fun ls hl => ?_)
                            refine lv_goto (tgt := 59) hx hb dX11_amountAt_241 (by decide) ?_
                            rw [Int32.add_zero] at hl
                            exact ih k false rest part (by rw [if_neg (by decide)]; rw [if_pos rfl] at hm; omega) (by omega) (by omega) hrest (by rw [← hr, if_pos rfl, smF_no hlt etw hnk (by rw [hs]), hs]; rfl) _ _ hP hD hS _ (lv_sub hl [4, 5, 6, 7, 0, 1] rfl)
                          · refine lv_iload hx hb dX11_amountAt_207 (lv_at hl 0 rfl) ?_
                            refine lv_bipush (v := 10) hx hb dX11_amountAt_209 (by decide) ?_
                            refine lv_irem hx hb dX11_amountAt_211 (by decide) ?_
                            refine lv_if_ne (tgt := 223) hx hb dX11_amountAt_212 (by decide) (fun c_212 => ?_) (fun c_212 => ?_)
                            · refine lv_iconst (v := 0) hx hb dX11_amountAt_223 (by decide) ?_
                              refine lv_istore (lv' := [(5, _), (7, _), (6, _), (0, _), (1, _), (2, _), (3, _), (4, _)]) hx hb dX11_amountAt_224 hl (by decide) rfl (fun ls hl => ?_)
                              have hs : sumA rest part (nI (k - i)) (wz j 3) = (false, rest, part, nI (k - i)) := by rw [sumA_in hne hrest]; simp [eq_true c_106, c_116, c_132, c_169, c_197, c_204, c_212]
                              refine lv_iload hx hb dX11_amountAt_226 (lv_at hl 7 rfl) ?_
                              refine lv_iload hx hb dX11_amountAt_228 (lv_at hl 0 rfl) ?_
                              refine lv_if_eq (tgt := 237) hx hb dX11_amountAt_230 (by decide) (fun _ => ?_) (fun c_230 => absurd c_230 (by decide))
                              refine lv_iconst (v := 0) hx hb dX11_amountAt_237 (by decide) ?_
                              refine lv_iadd hx hb dX11_amountAt_238 ?_
                              refine lv_istore (lv' := [(4, _), (5, _), (7, _), (6, _), (0, _), (1, _), (2, _), (3, _)]) hx hb dX11_amountAt_239 hl (by decide) rfl (fun ls hl => ?_)
                              refine lv_goto (tgt := 59) hx hb dX11_amountAt_241 (by decide) ?_
                              rw [Int32.add_zero] at hl
                              exact ih k false rest part (by rw [if_neg (by decide)]; rw [if_pos rfl] at hm; omega) (by omega) (by omega) hrest (by rw [← hr, if_pos rfl, smF_no hlt etw hnk (by rw [hs]), hs]; rfl) _ _ hP hD hS _ (lv_sub hl [4, 5, 6, 7, 0, 1] rfl)
                            · refine lv_iload_n hx hb dX11_amountAt_215 rfl (lv_at hl 4 rfl) ?_
                              refine lv_iload hx hb dX11_amountAt_216 (lv_at hl 1 rfl) ?_
                              refine lv_iadd hx hb dX11_amountAt_218 ?_
                              refine lv_istore_n (lv' := [(2, _), (7, _), (6, _), (0, _), (1, _), (3, _), (4, _), (5, _)]) hx hb dX11_amountAt_219 rfl hl (by decide) rfl (fun ls hl => ?_)
                              refine lv_goto (tgt := 226) hx hb dX11_amountAt_220 (by decide) ?_
                              have hs : sumA rest part (nI (k - i)) (wz j 3) = (true, rest, part + wz j 3, nI (k - i) + 1) := by rw [sumA_in hne hrest]; simp [eq_true c_106, c_116, c_132, c_169, c_197, c_204, eq_true c_212]
                              refine lv_iload hx hb dX11_amountAt_226 (lv_at hl 6 rfl) ?_
                              refine lv_iload hx hb dX11_amountAt_228 (lv_at hl 7 rfl) ?_
                              refine lv_if_eq (tgt := 237) hx hb dX11_amountAt_230 (by decide) (fun c_230 => absurd c_230 (by decide)) (fun _ => ?_)
                              refine lv_iconst (v := 1) hx hb dX11_amountAt_233 (by decide) ?_
                              refine lv_goto (tgt := 238) hx hb dX11_amountAt_234 (by decide) ?_
                              refine lv_iadd hx hb dX11_amountAt_238 ?_
                              refine lv_istore (lv' := [(4, _), (2, _), (7, _), (6, _), (0, _), (1, _), (3, _), (5, _)]) hx hb dX11_amountAt_239 hl (by decide) rfl (fun ls hl => ?_)
                              refine lv_goto (tgt := 59) hx hb dX11_amountAt_241 (by decide) ?_
                              rw [nI_1] at hl
                              exact ih (k + 1) true rest (part + wz j 3) (by rw [if_pos rfl]; rw [if_pos rfl] at hm; omega) (by omega) (by omega) (hrest) (by rw [← hr, if_pos rfl, smF_go hlt etw hnk (by rw [hs]), hs, show k + 1 - i = k - i + 1 by omega, ← nI_1]; rfl) _ _ hP hD hS _ (lv_sub hl [4, 5, 1, 6, 0, 7] rfl)
                      · replace c_169 := bI_n0.mp c_169
                        refine lv_iload_n hx hb dX11_amountAt_172 rfl (lv_at hl 4 rfl) ?_
                        refine lv_if_le (tgt := 181) hx hb dX11_amountAt_173 (by decide) (fun c_173 => ?_) (fun c_173 => ?_)
                        · have c_173b : ¬ 0 < part := Int32.not_lt.mpr c_173
                          refine lv_iload_n hx hb dX11_amountAt_181 rfl (lv_at hl 4 rfl) ?_
                          refine lv_if_ne (tgt := 189) hx hb dX11_amountAt_182 (by decide) (fun c_182 => ?_) (fun c_182 => ?_)
                          · refine lv_iload hx hb dX11_amountAt_189 (lv_at hl 1 rfl) ?_
                            refine lv_iconst (v := 1) hx hb dX11_amountAt_191 (by decide) ?_
                            refine lv_bipush (v := 9) hx hb dX11_amountAt_192 (by decide) ?_
                            refine ro_S (n := 3) X hK (c_X11_in) gX11_amountAt_X11_in rfl (by decide +kernel) ⟨rfl, rfl⟩ ⟨Nat.le_of_ble_eq_true rfl, Nat.le_of_ble_eq_true rfl⟩ (hP.sub [] rfl) rfl hl.1 rfl (Nat.le_of_ble_eq_true rfl) dX11_amountAt_194 ⟨Nat.zero_le _, Nat.zero_le _⟩ ?_
                            refine lv_if_eq (tgt := 223) hx hb dX11_amountAt_197 (by decide) (fun c_197 => ?_) (fun c_197 => ?_)
                            · replace c_197 := bI_0.mp c_197
                              refine lv_iconst (v := 0) hx hb dX11_amountAt_223 (by decide) ?_
                              refine lv_istore (lv' := [(5, _), (7, _), (6, _), (0, _), (1, _), (2, _), (3, _), (4, _)]) hx hb dX11_amountAt_224 hl (by decide) rfl (fun ls hl => ?_)
                              have hs : sumA rest part (nI (k - i)) (wz j 3) = (false, rest, part, nI (k - i)) := by rw [sumA_in hne hrest]; simp [c_173b, eq_true c_106, c_116, c_132, c_169, c_173, c_182, c_197]
                              refine lv_iload hx hb dX11_amountAt_226 (lv_at hl 7 rfl) ?_
                              refine lv_iload hx hb dX11_amountAt_228 (lv_at hl 0 rfl) ?_
                              refine lv_if_eq (tgt := 237) hx hb dX11_amountAt_230 (by decide) (fun _ => ?_) (fun c_230 => absurd c_230 (by decide))
                              refine lv_iconst (v := 0) hx hb dX11_amountAt_237 (by decide) ?_
                              refine lv_iadd hx hb dX11_amountAt_238 ?_
                              refine lv_istore (lv' := [(4, _), (5, _), (7, _), (6, _), (0, _), (1, _), (2, _), (3, _)]) hx hb dX11_amountAt_239 hl (by decide) rfl (fun ls hl => ?_)
                              refine lv_goto (tgt := 59) hx hb dX11_amountAt_241 (by decide) ?_
                              rw [Int32.add_zero] at hl
                              exact ih k false rest part (by rw [if_neg (by decide)]; rw [if_pos rfl] at hm; omega) (by omega) (by omega) hrest (by rw [← hr, if_pos rfl, smF_no hlt etw hnk (by rw [hs]), hs]; rfl) _ _ hP hD hS _ (lv_sub hl [4, 5, 6, 7, 0, 1] rfl)
                            · replace c_197 := bI_n0.mp c_197
                              refine lv_iload hx hb dX11_amountAt_200 (lv_at hl 0 rfl) ?_
                              refine lv_bipush (v := 20) hx hb dX11_amountAt_202 (by decide) ?_
                              refine lv_icmp_lt (tgt := 223) hx hb dX11_amountAt_204 (by decide) (fun c_204 => ?_) (fun c_204 => ?_)
                              · refine lv_iconst (v := 0) hx hb dX11_amountAt_223 (by decide) ?_
                                refine lv_istore (lv' := [(5, _), (7, _), (6, _), (0, _), (1, _), (2, _), (3, _), (4, _)]) hx hb dX11_amountAt_224 hl (by decide) rfl (fun ls hl => ?_)
                                have hs : sumA rest part (nI (k - i)) (wz j 3) = (false, rest, part, nI (k - i)) := by rw [sumA_in hne hrest]; simp [c_173b, eq_true c_106, c_116, c_132, c_169, c_173, c_182, c_197, c_204]
                                refine lv_iload hx hb dX11_amountAt_226 (lv_at hl 7 rfl) ?_
                                refine lv_iload hx hb dX11_amountAt_228 (lv_at hl 0 rfl) ?_
                                refine lv_if_eq (tgt := 237) hx hb dX11_amountAt_230 (by decide) (fun _ => ?_) (fun c_230 => absurd c_230 (by decide))
                                refine lv_iconst (v := 0) hx hb dX11_amountAt_237 (by decide) ?_
                                refine lv_iadd hx hb dX11_amountAt_238 ?_
                                refine lv_istore (lv' := [(4, _), (5, _), (7, _), (6, _), (0, _), (1, _), (2, _), (3, _)]) hx hb dX11_amountAt_239 hl (by decide) rfl (fun ls hl => ?_)
                                refine lv_goto (tgt := 59) hx hb dX11_amountAt_241 (by decide) ?_
                                rw [Int32.add_zero] at hl
                                exact ih k false rest part (by rw [if_neg (by decide)]; rw [if_pos rfl] at hm; omega) (by omega) (by omega) hrest (by rw [← hr, if_pos rfl, smF_no hlt etw hnk (by rw [hs]), hs]; rfl) _ _ hP hD hS _ (lv_sub hl [4, 5, 6, 7, 0, 1] rfl)
                              · refine lv_iload hx hb dX11_amountAt_207 (lv_at hl 0 rfl) ?_
                                refine lv_bipush (v := 10) hx hb dX11_amountAt_209 (by decide) ?_
                                refine lv_irem hx hb dX11_amountAt_211 (by decide) ?_
                                refine lv_if_ne (tgt := 223) hx hb dX11_amountAt_212 (by decide) (fun c_212 => ?_) (fun c_212 => ?_)
                                · refine lv_iconst (v := 0) hx hb dX11_amountAt_223 (by decide) ?_
                                  refine lv_istore (lv' := [(5, _), (7, _), (6, _), (0, _), (1, _), (2, _), (3, _), (4, _)]) hx hb dX11_amountAt_224 hl (by decide) rfl (fun ls hl => ?_)
                                  have hs : sumA rest part (nI (k - i)) (wz j 3) = (false, rest, part, nI (k - i)) := by rw [sumA_in hne hrest]; simp [c_173b, eq_true c_106, c_116, c_132, c_169, c_173, c_182, c_197, c_204, c_212]
                                  refine lv_iload hx hb dX11_amountAt_226 (lv_at hl 7 rfl) ?_
                                  refine lv_iload hx hb dX11_amountAt_228 (lv_at hl 0 rfl) ?_
                                  refine lv_if_eq (tgt := 237) hx hb dX11_amountAt_230 (by decide) (fun _ => ?_) (fun c_230 => absurd c_230 (by decide))
                                  refine lv_iconst (v := 0) hx hb dX11_amountAt_237 (by decide) ?_
                                  refine lv_iadd hx hb dX11_amountAt_238 ?_
                                  refine lv_istore (lv' := [(4, _), (5, _), (7, _), (6, _), (0, _), (1, _), (2, _), (3, _)]) hx hb dX11_amountAt_239 hl (by decide) rfl (fun ls hl => ?_)
                                  refine lv_goto (tgt := 59) hx hb dX11_amountAt_241 (by decide) ?_
                                  rw [Int32.add_zero] at hl
                                  exact ih k false rest part (by rw [if_neg (by decide)]; rw [if_pos rfl] at hm; omega) (by omega) (by omega) hrest (by rw [← hr, if_pos rfl, smF_no hlt etw hnk (by rw [hs]), hs]; rfl) _ _ hP hD hS _ (lv_sub hl [4, 5, 6, 7, 0, 1] rfl)
                                · refine lv_iload_n hx hb dX11_amountAt_215 rfl (lv_at hl 4 rfl) ?_
                                  refine lv_iload hx hb dX11_amountAt_216 (lv_at hl 1 rfl) ?_
                                  refine lv_iadd hx hb dX11_amountAt_218 ?_
                                  refine lv_istore_n (lv' := [(2, _), (7, _), (6, _), (0, _), (1, _), (3, _), (4, _), (5, _)]) hx hb dX11_amountAt_219 rfl hl (by decide) rfl (fun ls hl => ?_)
                                  refine lv_goto (tgt := 226) hx hb dX11_amountAt_220 (by decide) ?_
                                  have hs : sumA rest part (nI (k - i)) (wz j 3) = (true, rest, part + wz j 3, nI (k - i) + 1) := by rw [sumA_in hne hrest]; simp [c_173b, eq_true c_106, c_116, c_132, c_169, c_173, c_182, c_197, c_204, eq_true c_212]
                                  refine lv_iload hx hb dX11_amountAt_226 (lv_at hl 6 rfl) ?_
                                  refine lv_iload hx hb dX11_amountAt_228 (lv_at hl 7 rfl) ?_
                                  refine lv_if_eq (tgt := 237) hx hb dX11_amountAt_230 (by decide) (fun c_230 => absurd c_230 (by decide)) (fun _ => ?_)
                                  refine lv_iconst (v := 1) hx hb dX11_amountAt_233 (by decide) ?_
                                  refine lv_goto (tgt := 238) hx hb dX11_amountAt_234 (by decide) ?_
                                  refine lv_iadd hx hb dX11_amountAt_238 ?_
                                  refine lv_istore (lv' := [(4, _), (2, _), (7, _), (6, _), (0, _), (1, _), (3, _), (5, _)]) hx hb dX11_amountAt_239 hl (by decide) rfl (fun ls hl => ?_)
                                  refine lv_goto (tgt := 59) hx hb dX11_amountAt_241 (by decide) ?_
                                  rw [nI_1] at hl
                                  exact ih (k + 1) true rest (part + wz j 3) (by rw [if_pos rfl]; rw [if_pos rfl] at hm; omega) (by omega) (by omega) (hrest) (by rw [← hr, if_pos rfl, smF_go hlt etw hnk (by rw [hs]), hs, show k + 1 - i = k - i + 1 by omega, ← nI_1]; rfl) _ _ hP hD hS _ (lv_sub hl [4, 5, 1, 6, 0, 7] rfl)
                          · refine lv_iload_n hx hb dX11_amountAt_185 rfl (lv_at hl 5 rfl) ?_
                            refine lv_if_gt (tgt := 215) hx hb dX11_amountAt_186 (by decide) (fun c_186 => ?_) (fun c_186 => ?_)
                            · refine lv_iload_n hx hb dX11_amountAt_215 rfl (lv_at hl 4 rfl) ?_
                              refine lv_iload hx hb dX11_amountAt_216 (lv_at hl 1 rfl) ?_
                              refine lv_iadd hx hb dX11_amountAt_218 ?_
                              refine lv_istore_n (lv' := [(2, _), (7, _), (6, _), (0, _), (1, _), (3, _), (4, _), (5, _)]) hx hb dX11_amountAt_219 rfl hl (by decide) rfl (fun ls hl => ?_)
                              refine lv_goto (tgt := 226) hx hb dX11_amountAt_220 (by decide) ?_
                              have hs : sumA rest part (nI (k - i)) (wz j 3) = (true, rest, part + wz j 3, nI (k - i) + 1) := by rw [sumA_in hne hrest]; simp [c_173b, eq_true c_106, c_116, c_132, c_169, c_173, eq_true c_182, c_186]
                              refine lv_iload hx hb dX11_amountAt_226 (lv_at hl 6 rfl) ?_
                              refine lv_iload hx hb dX11_amountAt_228 (lv_at hl 7 rfl) ?_
                              refine lv_if_eq (tgt := 237) hx hb dX11_amountAt_230 (by decide) (fun c_230 => absurd c_230 (by decide)) (fun _ => ?_)
                              refine lv_iconst (v := 1) hx hb dX11_amountAt_233 (by decide) ?_
                              refine lv_goto (tgt := 238) hx hb dX11_amountAt_234 (by decide) ?_
                              refine lv_iadd hx hb dX11_amountAt_238 ?_
                              refine lv_istore (lv' := [(4, _), (2, _), (7, _), (6, _), (0, _), (1, _), (3, _), (5, _)]) hx hb dX11_amountAt_239 hl (by decide) rfl (fun ls hl => ?_)
                              refine lv_goto (tgt := 59) hx hb dX11_amountAt_241 (by decide) ?_
                              rw [nI_1] at hl
                              exact ih (k + 1) true rest (part + wz j 3) (by rw [if_pos rfl]; rw [if_pos rfl] at hm; omega) (by omega) (by omega) (hrest) (by rw [← hr, if_pos rfl, smF_go hlt etw hnk (by rw [hs]), hs, show k + 1 - i = k - i + 1 by omega, ← nI_1]; rfl) _ _ hP hD hS _ (lv_sub hl [4, 5, 1, 6, 0, 7] rfl)
                            · refine lv_iload hx hb dX11_amountAt_189 (lv_at hl 1 rfl) ?_
                              refine lv_iconst (v := 1) hx hb dX11_amountAt_191 (by decide) ?_
                              refine lv_bipush (v := 9) hx hb dX11_amountAt_192 (by decide) ?_
                              refine ro_S (n := 3) X hK (c_X11_in) gX11_amountAt_X11_in rfl (by decide +kernel) ⟨rfl, rfl⟩ ⟨Nat.le_of_ble_eq_true rfl, Nat.le_of_ble_eq_true rfl⟩ (hP.sub [] rfl) rfl hl.1 rfl (Nat.le_of_ble_eq_true rfl) dX11_amountAt_194 ⟨Nat.zero_le _, Nat.zero_le _⟩ ?_
                              refine lv_if_eq (tgt := 223) hx hb dX11_amountAt_197 (by decide) (fun c_197 => ?_) (fun c_197 => ?_)
                              · replace c_197 := bI_0.mp c_197
                                refine lv_iconst (v := 0) hx hb dX11_amountAt_223 (by decide) ?_
                                refine lv_istore (lv' := [(5, _), (7, _), (6, _), (0, _), (1, _), (2, _), (3, _), (4, _)]) hx hb dX11_amountAt_224 hl (by decide) rfl (fun ls hl => ?_)
                                have hs : sumA rest part (nI (k - i)) (wz j 3) = (false, rest, part, nI (k - i)) := by rw [sumA_in hne hrest]; simp [c_173b, eq_true c_106, c_116, c_132, c_169, c_173, eq_true c_182, c_186, c_197]
                                refine lv_iload hx hb dX11_amountAt_226 (lv_at hl 7 rfl) ?_
                                refine lv_iload hx hb dX11_amountAt_228 (lv_at hl 0 rfl) ?_
                                refine lv_if_eq (tgt := 237) hx hb dX11_amountAt_230 (by decide) (fun _ => ?_) (fun c_230 => absurd c_230 (by decide))
                                refine lv_iconst (v := 0) hx hb dX11_amountAt_237 (by decide) ?_
                                refine lv_iadd hx hb dX11_amountAt_238 ?_
                                refine lv_istore (lv' := [(4, _), (5, _), (7, _), (6, _), (0, _), (1, _), (2, _), (3, _)]) hx hb dX11_amountAt_239 hl (by decide) rfl (fun ls hl => ?_)
                                refine lv_goto (tgt := 59) hx hb dX11_amountAt_241 (by decide) ?_
                                rw [Int32.add_zero] at hl
                                exact ih k false rest part (by rw [if_neg (by decide)]; rw [if_pos rfl] at hm; omega) (by omega) (by omega) hrest (by rw [← hr, if_pos rfl, smF_no hlt etw hnk (by rw [hs]), hs]; rfl) _ _ hP hD hS _ (lv_sub hl [4, 5, 6, 7, 0, 1] rfl)
                              · replace c_197 := bI_n0.mp c_197
                                refine lv_iload hx hb dX11_amountAt_200 (lv_at hl 0 rfl) ?_
                                refine lv_bipush (v := 20) hx hb dX11_amountAt_202 (by decide) ?_
                                refine lv_icmp_lt (tgt := 223) hx hb dX11_amountAt_204 (by decide) (fun c_204 => ?_) (fun c_204 => ?_)
                                · refine lv_iconst (v := 0) hx hb dX11_amountAt_223 (by decide) ?_
                                  refine lv_istore (lv' := [(5, _), (7, _), (6, _), (0, _), (1, _), (2, _), (3, _), (4, _)]) hx hb dX11_amountAt_224 hl (by decide) rfl (fun ls hl => ?_)
                                  have hs : sumA rest part (nI (k - i)) (wz j 3) = (false, rest, part, nI (k - i)) := by rw [sumA_in hne hrest]; simp [c_173b, eq_true c_106, c_116, c_132, c_169, c_173, eq_true c_182, c_186, c_197, c_204]
                                  refine lv_iload hx hb dX11_amountAt_226 (lv_at hl 7 rfl) ?_
                                  refine lv_iload hx hb dX11_amountAt_228 (lv_at hl 0 rfl) ?_
                                  refine lv_if_eq (tgt := 237) hx hb dX11_amountAt_230 (by decide) (fun _ => ?_) (fun c_230 => absurd c_230 (by decide))
                                  refine lv_iconst (v := 0) hx hb dX11_amountAt_237 (by decide) ?_
                                  refine lv_iadd hx hb dX11_amountAt_238 ?_
                                  refine lv_istore (lv' := [(4, _), (5, _), (7, _), (6, _), (0, _), (1, _), (2, _), (3, _)]) hx hb dX11_amountAt_239 hl (by decide) rfl (fun ls hl => ?_)
                                  refine lv_goto (tgt := 59) hx hb dX11_amountAt_241 (by decide) ?_
                                  rw [Int32.add_zero] at hl
                                  exact ih k false rest part (by rw [if_neg (by decide)]; rw [if_pos rfl] at hm; omega) (by omega) (by omega) hrest (by rw [← hr, if_pos rfl, smF_no hlt etw hnk (by rw [hs]), hs]; rfl) _ _ hP hD hS _ (lv_sub hl [4, 5, 6, 7, 0, 1] rfl)
                                · refine lv_iload hx hb dX11_amountAt_207 (lv_at hl 0 rfl) ?_
                                  refine lv_bipush (v := 10) hx hb dX11_amountAt_209 (by decide) ?_
                                  refine lv_irem hx hb dX11_amountAt_211 (by decide) ?_
                                  refine lv_if_ne (tgt := 223) hx hb dX11_amountAt_212 (by decide) (fun c_212 => ?_) (fun c_212 => ?_)
                                  · refine lv_iconst (v := 0) hx hb dX11_amountAt_223 (by decide) ?_
                                    refine lv_istore (lv' := [(5, _), (7, _), (6, _), (0, _), (1, _), (2, _), (3, _), (4, _)]) hx hb dX11_amountAt_224 hl (by decide) rfl (fun ls hl => ?_)
                                    have hs : sumA rest part (nI (k - i)) (wz j 3) = (false, rest, part, nI (k - i)) := by rw [sumA_in hne hrest]; simp [c_173b, eq_true c_106, c_116, c_132, c_169, c_173, eq_true c_182, c_186, c_197, c_204, c_212]
                                    refine lv_iload hx hb dX11_amountAt_226 (lv_at hl 7 rfl) ?_
                                    refine lv_iload hx hb dX11_amountAt_228 (lv_at hl 0 rfl) ?_
                                    refine lv_if_eq (tgt := 237) hx hb dX11_amountAt_230 (by decide) (fun _ => ?_) (fun c_230 => absurd c_230 (by decide))
                                    refine lv_iconst (v := 0) hx hb dX11_amountAt_237 (by decide) ?_
                                    refine lv_iadd hx hb dX11_amountAt_238 ?_
                                    refine lv_istore (lv' := [(4, _), (5, _), (7, _), (6, _), (0, _), (1, _), (2, _), (3, _)]) hx hb dX11_amountAt_239 hl (by decide) rfl (fun ls hl => ?_)
                                    refine lv_goto (tgt := 59) hx hb dX11_amountAt_241 (by decide) ?_
                                    rw [Int32.add_zero] at hl
                                    exact ih k false rest part (by rw [if_neg (by decide)]; rw [if_pos rfl] at hm; omega) (by omega) (by omega) hrest (by rw [← hr, if_pos rfl, smF_no hlt etw hnk (by rw [hs]), hs]; rfl) _ _ hP hD hS _ (lv_sub hl [4, 5, 6, 7, 0, 1] rfl)
                                  · refine lv_iload_n hx hb dX11_amountAt_215 rfl (lv_at hl 4 rfl) ?_
                                    refine lv_iload hx hb dX11_amountAt_216 (lv_at hl 1 rfl) ?_
                                    refine lv_iadd hx hb dX11_amountAt_218 ?_
                                    refine lv_istore_n (lv' := [(2, _), (7, _), (6, _), (0, _), (1, _), (3, _), (4, _), (5, _)]) hx hb dX11_amountAt_219 rfl hl (by decide) rfl (fun ls hl => ?_)
                                    refine lv_goto (tgt := 226) hx hb dX11_amountAt_220 (by decide) ?_
                                    have hs : sumA rest part (nI (k - i)) (wz j 3) = (true, rest, part + wz j 3, nI (k - i) + 1) := by rw [sumA_in hne hrest]; simp [c_173b, eq_true c_106, c_116, c_132, c_169, c_173, eq_true c_182, c_186, c_197, c_204, eq_true c_212]
                                    refine lv_iload hx hb dX11_amountAt_226 (lv_at hl 6 rfl) ?_
                                    refine lv_iload hx hb dX11_amountAt_228 (lv_at hl 7 rfl) ?_
                                    refine lv_if_eq (tgt := 237) hx hb dX11_amountAt_230 (by decide) (fun c_230 => absurd c_230 (by decide)) (fun _ => ?_)
                                    refine lv_iconst (v := 1) hx hb dX11_amountAt_233 (by decide) ?_
                                    refine lv_goto (tgt := 238) hx hb dX11_amountAt_234 (by decide) ?_
                                    refine lv_iadd hx hb dX11_amountAt_238 ?_
                                    refine lv_istore (lv' := [(4, _), (2, _), (7, _), (6, _), (0, _), (1, _), (3, _), (5, _)]) hx hb dX11_amountAt_239 hl (by decide) rfl (fun ls hl => ?_)
                                    refine lv_goto (tgt := 59) hx hb dX11_amountAt_241 (by decide) ?_
                                    rw [nI_1] at hl
                                    exact ih (k + 1) true rest (part + wz j 3) (by rw [if_pos rfl]; rw [if_pos rfl] at hm; omega) (by omega) (by omega) (hrest) (by rw [← hr, if_pos rfl, smF_go hlt etw hnk (by rw [hs]), hs, show k + 1 - i = k - i + 1 by omega, ← nI_1]; rfl) _ _ hP hD hS _ (lv_sub hl [4, 5, 1, 6, 0, 7] rfl)
                        · have c_173b : 0 < part := Int32.not_le.mp c_173
                          refine lv_iload hx hb dX11_amountAt_176 (lv_at hl 0 rfl) ?_
                          refine lv_if_eq (tgt := 215) hx hb dX11_amountAt_178 (by decide) (fun c_178 => ?_) (fun c_178 => ?_)
                          · refine lv_iload_n hx hb dX11_amountAt_215 rfl (lv_at hl 4 rfl) ?_
                            refine lv_iload hx hb dX11_amountAt_216 (lv_at hl 1 rfl) ?_
                            refine lv_iadd hx hb dX11_amountAt_218 ?_
                            refine lv_istore_n (lv' := [(2, _), (7, _), (6, _), (0, _), (1, _), (3, _), (4, _), (5, _)]) hx hb dX11_amountAt_219 rfl hl (by decide) rfl (fun ls hl => ?_)
                            refine lv_goto (tgt := 226) hx hb dX11_amountAt_220 (by decide) ?_
                            have hs : sumA rest part (nI (k - i)) (wz j 3) = (true, rest, part + wz j 3, nI (k - i) + 1) := by rw [sumA_in hne hrest]; simp [c_173b, eq_true c_106, c_116, c_132, c_169, c_173, eq_true c_178]
                            refine lv_iload hx hb dX11_amountAt_226 (lv_at hl 6 rfl) ?_
                            refine lv_iload hx hb dX11_amountAt_228 (lv_at hl 7 rfl) ?_
                            refine lv_if_eq (tgt := 237) hx hb dX11_amountAt_230 (by decide) (fun c_230 => absurd c_230 (by decide)) (fun _ => ?_)
                            refine lv_iconst (v := 1) hx hb dX11_amountAt_233 (by decide) ?_
                            refine lv_goto (tgt := 238) hx hb dX11_amountAt_234 (by decide) ?_
                            refine lv_iadd hx hb dX11_amountAt_238 ?_
                            refine lv_istore (lv' := [(4, _), (2, _), (7, _), (6, _), (0, _), (1, _), (3, _), (5, _)]) hx hb dX11_amountAt_239 hl (by decide) rfl (fun ls hl => ?_)
                            refine lv_goto (tgt := 59) hx hb dX11_amountAt_241 (by decide) ?_
                            rw [nI_1] at hl
                            exact ih (k + 1) true rest (part + wz j 3) (by rw [if_pos rfl]; rw [if_pos rfl] at hm; omega) (by omega) (by omega) (hrest) (by rw [← hr, if_pos rfl, smF_go hlt etw hnk (by rw [hs]), hs, show k + 1 - i = k - i + 1 by omega, ← nI_1]; rfl) _ _ hP hD hS _ (lv_sub hl [4, 5, 1, 6, 0, 7] rfl)
                          · refine lv_iload_n hx hb dX11_amountAt_181 rfl (lv_at hl 4 rfl) ?_
                            refine lv_if_ne (tgt := 189) hx hb dX11_amountAt_182 (by decide) (fun c_182 => ?_) (fun c_182 => ?_)
                            · refine lv_iload hx hb dX11_amountAt_189 (lv_at hl 1 rfl) ?_
                              refine lv_iconst (v := 1) hx hb dX11_amountAt_191 (by decide) ?_
                              refine lv_bipush (v := 9) hx hb dX11_amountAt_192 (by decide) ?_
                              refine ro_S (n := 3) X hK (c_X11_in) gX11_amountAt_X11_in rfl (by decide +kernel) ⟨rfl, rfl⟩ ⟨Nat.le_of_ble_eq_true rfl, Nat.le_of_ble_eq_true rfl⟩ (hP.sub [] rfl) rfl hl.1 rfl (Nat.le_of_ble_eq_true rfl) dX11_amountAt_194 ⟨Nat.zero_le _, Nat.zero_le _⟩ ?_
                              refine lv_if_eq (tgt := 223) hx hb dX11_amountAt_197 (by decide) (fun c_197 => ?_) (fun c_197 => ?_)
                              · replace c_197 := bI_0.mp c_197
                                refine lv_iconst (v := 0) hx hb dX11_amountAt_223 (by decide) ?_
                                refine lv_istore (lv' := [(5, _), (7, _), (6, _), (0, _), (1, _), (2, _), (3, _), (4, _)]) hx hb dX11_amountAt_224 hl (by decide) rfl (fun ls hl => ?_)
                                have hs : sumA rest part (nI (k - i)) (wz j 3) = (false, rest, part, nI (k - i)) := by rw [sumA_in hne hrest]; simp [c_173b, eq_true c_106, c_116, c_132, c_169, c_173, c_178, c_182, c_197]
                                refine lv_iload hx hb dX11_amountAt_226 (lv_at hl 7 rfl) ?_
                                refine lv_iload hx hb dX11_amountAt_228 (lv_at hl 0 rfl) ?_
                                refine lv_if_eq (tgt := 237) hx hb dX11_amountAt_230 (by decide) (fun _ => ?_) (fun c_230 => absurd c_230 (by decide))
                                refine lv_iconst (v := 0) hx hb dX11_amountAt_237 (by decide) ?_
                                refine lv_iadd hx hb dX11_amountAt_238 ?_
                                refine lv_istore (lv' := [(4, _), (5, _), (7, _), (6, _), (0, _), (1, _), (2, _), (3, _)]) hx hb dX11_amountAt_239 hl (by decide) rfl (fun ls hl => ?_)
                                refine lv_goto (tgt := 59) hx hb dX11_amountAt_241 (by decide) ?_
                                rw [Int32.add_zero] at hl
                                exact ih k false rest part (by rw [if_neg (by decide)]; rw [if_pos rfl] at hm; omega) (by omega) (by omega) hrest (by rw [← hr, if_pos rfl, smF_no hlt etw hnk (by rw [hs]), hs]; rfl) _ _ hP hD hS _ (lv_sub hl [4, 5, 6, 7, 0, 1] rfl)
                              · replace c_197 := bI_n0.mp c_197
                                refine lv_iload hx hb dX11_amountAt_200 (lv_at hl 0 rfl) ?_
                                refine lv_bipush (v := 20) hx hb dX11_amountAt_202 (by decide) ?_
                                refine lv_icmp_lt (tgt := 223) hx hb dX11_amountAt_204 (by decide) (fun c_204 => ?_) (fun c_204 => ?_)
                                · refine lv_iconst (v := 0) hx hb dX11_amountAt_223 (by decide) ?_
                                  refine lv_istore (lv' := [(5, _), (7, _), (6, _), (0, _), (1, _), (2, _), (3, _), (4, _)]) hx hb dX11_amountAt_224 hl (by decide) rfl (fun ls hl => ?_)
                                  have hs : sumA rest part (nI (k - i)) (wz j 3) = (false, rest, part, nI (k - i)) := by rw [sumA_in hne hrest]; simp [c_173b, eq_true c_106, c_116, c_132, c_169, c_173, c_178, c_182, c_197, c_204]
                                  refine lv_iload hx hb dX11_amountAt_226 (lv_at hl 7 rfl) ?_
                                  refine lv_iload hx hb dX11_amountAt_228 (lv_at hl 0 rfl) ?_
                                  refine lv_if_eq (tgt := 237) hx hb dX11_amountAt_230 (by decide) (fun _ => ?_) (fun c_230 => absurd c_230 (by decide))
                                  refine lv_iconst (v := 0) hx hb dX11_amountAt_237 (by decide) ?_
                                  refine lv_iadd hx hb dX11_amountAt_238 ?_
                                  refine lv_istore (lv' := [(4, _), (5, _), (7, _), (6, _), (0, _), (1, _), (2, _), (3, _)]) hx hb dX11_amountAt_239 hl (by decide) rfl (fun ls hl => ?_)
                                  refine lv_goto (tgt := 59) hx hb dX11_amountAt_241 (by decide) ?_
                                  rw [Int32.add_zero] at hl
                                  exact ih k false rest part (by rw [if_neg (by decide)]; rw [if_pos rfl] at hm; omega) (by omega) (by omega) hrest (by rw [← hr, if_pos rfl, smF_no hlt etw hnk (by rw [hs]), hs]; rfl) _ _ hP hD hS _ (lv_sub hl [4, 5, 6, 7, 0, 1] rfl)
                                · refine lv_iload hx hb dX11_amountAt_207 (lv_at hl 0 rfl) ?_
                                  refine lv_bipush (v := 10) hx hb dX11_amountAt_209 (by decide) ?_
                                  refine lv_irem hx hb dX11_amountAt_211 (by decide) ?_
                                  refine lv_if_ne (tgt := 223) hx hb dX11_amountAt_212 (by decide) (fun c_212 => ?_) (fun c_212 => ?_)
                                  · refine lv_iconst (v := 0) hx hb dX11_amountAt_223 (by decide) ?_
                                    refine lv_istore (lv' := [(5, _), (7, _), (6, _), (0, _), (1, _), (2, _), (3, _), (4, _)]) hx hb dX11_amountAt_224 hl (by decide) rfl (fun ls hl => ?_)
                                    have hs : sumA rest part (nI (k - i)) (wz j 3) = (false, rest, part, nI (k - i)) := by rw [sumA_in hne hrest]; simp [c_173b, eq_true c_106, c_116, c_132, c_169, c_173, c_178, c_182, c_197, c_204, c_212]
                                    refine lv_iload hx hb dX11_amountAt_226 (lv_at hl 7 rfl) ?_
                                    refine lv_iload hx hb dX11_amountAt_228 (lv_at hl 0 rfl) ?_
                                    refine lv_if_eq (tgt := 237) hx hb dX11_amountAt_230 (by decide) (fun _ => ?_) (fun c_230 => absurd c_230 (by decide))
                                    refine lv_iconst (v := 0) hx hb dX11_amountAt_237 (by decide) ?_
                                    refine lv_iadd hx hb dX11_amountAt_238 ?_
                                    refine lv_istore (lv' := [(4, _), (5, _), (7, _), (6, _), (0, _), (1, _), (2, _), (3, _)]) hx hb dX11_amountAt_239 hl (by decide) rfl (fun ls hl => ?_)
                                    refine lv_goto (tgt := 59) hx hb dX11_amountAt_241 (by decide) ?_
                                    rw [Int32.add_zero] at hl
                                    exact ih k false rest part (by rw [if_neg (by decide)]; rw [if_pos rfl] at hm; omega) (by omega) (by omega) hrest (by rw [← hr, if_pos rfl, smF_no hlt etw hnk (by rw [hs]), hs]; rfl) _ _ hP hD hS _ (lv_sub hl [4, 5, 6, 7, 0, 1] rfl)
                                  · refine lv_iload_n hx hb dX11_amountAt_215 rfl (lv_at hl 4 rfl) ?_
                                    refine lv_iload hx hb dX11_amountAt_216 (lv_at hl 1 rfl) ?_
                                    refine lv_iadd hx hb dX11_amountAt_218 ?_
                                    refine lv_istore_n (lv' := [(2, _), (7, _), (6, _), (0, _), (1, _), (3, _), (4, _), (5, _)]) hx hb dX11_amountAt_219 rfl hl (by decide) rfl (fun ls hl => ?_)
                                    refine lv_goto (tgt := 226) hx hb dX11_amountAt_220 (by decide) ?_
                                    have hs : sumA rest part (nI (k - i)) (wz j 3) = (true, rest, part + wz j 3, nI (k - i) + 1) := by rw [sumA_in hne hrest]; simp [c_173b, eq_true c_106, c_116, c_132, c_169, c_173, c_178, c_182, c_197, c_204, eq_true c_212]
                                    refine lv_iload hx hb dX11_amountAt_226 (lv_at hl 6 rfl) ?_
                                    refine lv_iload hx hb dX11_amountAt_228 (lv_at hl 7 rfl) ?_
                                    refine lv_if_eq (tgt := 237) hx hb dX11_amountAt_230 (by decide) (fun c_230 => absurd c_230 (by decide)) (fun _ => ?_)
                                    refine lv_iconst (v := 1) hx hb dX11_amountAt_233 (by decide) ?_
                                    refine lv_goto (tgt := 238) hx hb dX11_amountAt_234 (by decide) ?_
                                    refine lv_iadd hx hb dX11_amountAt_238 ?_
                                    refine lv_istore (lv' := [(4, _), (2, _), (7, _), (6, _), (0, _), (1, _), (3, _), (5, _)]) hx hb dX11_amountAt_239 hl (by decide) rfl (fun ls hl => ?_)
                                    refine lv_goto (tgt := 59) hx hb dX11_amountAt_241 (by decide) ?_
                                    rw [nI_1] at hl
                                    exact ih (k + 1) true rest (part + wz j 3) (by rw [if_pos rfl]; rw [if_pos rfl] at hm; omega) (by omega) (by omega) (hrest) (by rw [← hr, if_pos rfl, smF_go hlt etw hnk (by rw [hs]), hs, show k + 1 - i = k - i + 1 by omega, ← nI_1]; rfl) _ _ hP hD hS _ (lv_sub hl [4, 5, 1, 6, 0, 7] rfl)
                            · exact absurd c_173b (by rw [c_182]; decide)
                    · refine lv_iload_n hx hb dX11_amountAt_135 rfl (lv_at hl 4 rfl) ?_
                      refine lv_iconst (v := 1) hx hb dX11_amountAt_136 (by decide) ?_
                      refine lv_sipush (v := 999) hx hb dX11_amountAt_137 (by decide) ?_
                      refine ro_S (n := 3) X hK (c_X11_in) gX11_amountAt_X11_in rfl (by decide +kernel) ⟨rfl, rfl⟩ ⟨Nat.le_of_ble_eq_true rfl, Nat.le_of_ble_eq_true rfl⟩ (hP.sub [] rfl) rfl hl.1 rfl (Nat.le_of_ble_eq_true rfl) dX11_amountAt_140 ⟨Nat.zero_le _, Nat.zero_le _⟩ ?_
                      refine lv_if_eq (tgt := 161) hx hb dX11_amountAt_143 (by decide) (fun c_143 => ?_) (fun c_143 => ?_)
                      · replace c_143 := bI_0.mp c_143
                        refine lv_iload hx hb dX11_amountAt_161 (lv_at hl 1 rfl) ?_
                        refine lv_iconst (v := 1) hx hb dX11_amountAt_163 (by decide) ?_
                        refine lv_bipush (v := 99) hx hb dX11_amountAt_164 (by decide) ?_
                        refine ro_S (n := 3) X hK (c_X11_in) gX11_amountAt_X11_in rfl (by decide +kernel) ⟨rfl, rfl⟩ ⟨Nat.le_of_ble_eq_true rfl, Nat.le_of_ble_eq_true rfl⟩ (hP.sub [] rfl) rfl hl.1 rfl (Nat.le_of_ble_eq_true rfl) dX11_amountAt_166 ⟨Nat.zero_le _, Nat.zero_le _⟩ ?_
                        refine lv_if_eq (tgt := 189) hx hb dX11_amountAt_169 (by decide) (fun c_169 => ?_) (fun c_169 => ?_)
                        · replace c_169 := bI_0.mp c_169
                          refine lv_iload hx hb dX11_amountAt_189 (lv_at hl 1 rfl) ?_
                          refine lv_iconst (v := 1) hx hb dX11_amountAt_191 (by decide) ?_
                          refine lv_bipush (v := 9) hx hb dX11_amountAt_192 (by decide) ?_
                          refine ro_S (n := 3) X hK (c_X11_in) gX11_amountAt_X11_in rfl (by decide +kernel) ⟨rfl, rfl⟩ ⟨Nat.le_of_ble_eq_true rfl, Nat.le_of_ble_eq_true rfl⟩ (hP.sub [] rfl) rfl hl.1 rfl (Nat.le_of_ble_eq_true rfl) dX11_amountAt_194 ⟨Nat.zero_le _, Nat.zero_le _⟩ ?_
                          refine lv_if_eq (tgt := 223) hx hb dX11_amountAt_197 (by decide) (fun c_197 => ?_) (fun c_197 => ?_)
                          · replace c_197 := bI_0.mp c_197
                            refine lv_iconst (v := 0) hx hb dX11_amountAt_223 (by decide) ?_
                            refine lv_istore (lv' := [(5, _), (7, _), (6, _), (0, _), (1, _), (2, _), (3, _), (4, _)]) hx hb dX11_amountAt_224 hl (by decide) rfl (fun ls hl => ?_)
                            have hs : sumA rest part (nI (k - i)) (wz j 3) = (false, rest, part, nI (k - i)) := by rw [sumA_in hne hrest]; simp [eq_true c_106, c_116, eq_true c_132, c_143, c_169, c_197]
                            refine lv_iload hx hb dX11_amountAt_226 (lv_at hl 7 rfl) ?_
                            refine lv_iload hx hb dX11_amountAt_228 (lv_at hl 0 rfl) ?_
                            refine lv_if_eq (tgt := 237) hx hb dX11_amountAt_230 (by decide) (fun _ => ?_) (fun c_230 => absurd c_230 (by decide))
                            refine lv_iconst (v := 0) hx hb dX11_amountAt_237 (by decide) ?_
                            refine lv_iadd hx hb dX11_amountAt_238 ?_
                            refine lv_istore (lv' := [(4, _), (5, _), (7, _), (6, _), (0, _), (1, _), (2, _), (3, _)]) hx hb dX11_amountAt_239 hl (by decide) rfl (fun ls hl => ?_)
                            refine lv_goto (tgt := 59) hx hb dX11_amountAt_241 (by decide) ?_
                            rw [Int32.add_zero] at hl
                            exact ih k false rest part (by rw [if_neg (by decide)]; rw [if_pos rfl] at hm; omega) (by omega) (by omega) hrest (by rw [← hr, if_pos rfl, smF_no hlt etw hnk (by rw [hs]), hs]; rfl) _ _ hP hD hS _ (lv_sub hl [4, 5, 6, 7, 0, 1] rfl)
                          · replace c_197 := bI_n0.mp c_197
                            refine lv_iload hx hb dX11_amountAt_200 (lv_at hl 0 rfl) ?_
                            refine lv_bipush (v := 20) hx hb dX11_amountAt_202 (by decide) ?_
                            refine lv_icmp_lt (tgt := 223) hx hb dX11_amountAt_204 (by decide) (fun c_204 => ?_) (fun c_204 => ?_)
                            · refine lv_iconst (v := 0) hx hb dX11_amountAt_223 (by decide) ?_
                              refine lv_istore (lv' := [(5, _), (7, _), (6, _), (0, _), (1, _), (2, _), (3, _), (4, _)]) hx hb dX11_amountAt_224 hl (by decide) rfl (fun ls hl => ?_)
                              have hs : sumA rest part (nI (k - i)) (wz j 3) = (false, rest, part, nI (k - i)) := by rw [sumA_in hne hrest]; simp [eq_true c_106, c_116, eq_true c_132, c_143, c_169, c_197, c_204]
                              refine lv_iload hx hb dX11_amountAt_226 (lv_at hl 7 rfl) ?_
                              refine lv_iload hx hb dX11_amountAt_228 (lv_at hl 0 rfl) ?_
                              refine lv_if_eq (tgt := 237) hx hb dX11_amountAt_230 (by decide) (fun _ => ?_) (fun c_230 => absurd c_230 (by decide))
                              refine lv_iconst (v := 0) hx hb dX11_amountAt_237 (by decide) ?_
                              refine lv_iadd hx hb dX11_amountAt_238 ?_
                              refine lv_istore (lv' := [(4, _), (5, _), (7, _), (6, _), (0, _), (1, _), (2, _), (3, _)]) hx hb dX11_amountAt_239 hl (by decide) rfl (fun ls hl => ?_)
                              refine lv_goto (tgt := 59) hx hb dX11_amountAt_241 (by decide) ?_
                              rw [Int32.add_zero] at hl
                              exact ih k false rest part (by rw [if_neg (by decide)]; rw [if_pos rfl] at hm; omega) (by omega) (by omega) hrest (by rw [← hr, if_pos rfl, smF_no hlt etw hnk (by rw [hs]), hs]; rfl) _ _ hP hD hS _ (lv_sub hl [4, 5, 6, 7, 0, 1] rfl)
                            · refine lv_iload hx hb dX11_amountAt_207 (lv_at hl 0 rfl) ?_
                              refine lv_bipush (v := 10) hx hb dX11_amountAt_209 (by decide) ?_
                              refine lv_irem hx hb dX11_amountAt_211 (by decide) ?_
                              refine lv_if_ne (tgt := 223) hx hb dX11_amountAt_212 (by decide) (fun c_212 => ?_) (fun c_212 => ?_)
                              · refine lv_iconst (v := 0) hx hb dX11_amountAt_223 (by decide) ?_
                                refine lv_istore (lv' := [(5, _), (7, _), (6, _), (0, _), (1, _), (2, _), (3, _), (4, _)]) hx hb dX11_amountAt_224 hl (by decide) rfl (fun ls hl => ?_)
                                have hs : sumA rest part (nI (k - i)) (wz j 3) = (false, rest, part, nI (k - i)) := by rw [sumA_in hne hrest]; simp [eq_true c_106, c_116, eq_true c_132, c_143, c_169, c_197, c_204, c_212]
                                refine lv_iload hx hb dX11_amountAt_226 (lv_at hl 7 rfl) ?_
                                refine lv_iload hx hb dX11_amountAt_228 (lv_at hl 0 rfl) ?_
                                refine lv_if_eq (tgt := 237) hx hb dX11_amountAt_230 (by decide) (fun _ => ?_) (fun c_230 => absurd c_230 (by decide))
                                refine lv_iconst (v := 0) hx hb dX11_amountAt_237 (by decide) ?_
                                refine lv_iadd hx hb dX11_amountAt_238 ?_
                                refine lv_istore (lv' := [(4, _), (5, _), (7, _), (6, _), (0, _), (1, _), (2, _), (3, _)]) hx hb dX11_amountAt_239 hl (by decide) rfl (fun ls hl => ?_)
                                refine lv_goto (tgt := 59) hx hb dX11_amountAt_241 (by decide) ?_
                                rw [Int32.add_zero] at hl
                                exact ih k false rest part (by rw [if_neg (by decide)]; rw [if_pos rfl] at hm; omega) (by omega) (by omega) hrest (by rw [← hr, if_pos rfl, smF_no hlt etw hnk (by rw [hs]), hs]; rfl) _ _ hP hD hS _ (lv_sub hl [4, 5, 6, 7, 0, 1] rfl)
                              · refine lv_iload_n hx hb dX11_amountAt_215 rfl (lv_at hl 4 rfl) ?_
                                refine lv_iload hx hb dX11_amountAt_216 (lv_at hl 1 rfl) ?_
                                refine lv_iadd hx hb dX11_amountAt_218 ?_
                                refine lv_istore_n (lv' := [(2, _), (7, _), (6, _), (0, _), (1, _), (3, _), (4, _), (5, _)]) hx hb dX11_amountAt_219 rfl hl (by decide) rfl (fun ls hl => ?_)
                                refine lv_goto (tgt := 226) hx hb dX11_amountAt_220 (by decide) ?_
                                have hs : sumA rest part (nI (k - i)) (wz j 3) = (true, rest, part + wz j 3, nI (k - i) + 1) := by rw [sumA_in hne hrest]; simp [eq_true c_106, c_116, eq_true c_132, c_143, c_169, c_197, c_204, eq_true c_212]
                                refine lv_iload hx hb dX11_amountAt_226 (lv_at hl 6 rfl) ?_
                                refine lv_iload hx hb dX11_amountAt_228 (lv_at hl 7 rfl) ?_
                                refine lv_if_eq (tgt := 237) hx hb dX11_amountAt_230 (by decide) (fun c_230 => absurd c_230 (by decide)) (fun _ => ?_)
                                refine lv_iconst (v := 1) hx hb dX11_amountAt_233 (by decide) ?_
                                refine lv_goto (tgt := 238) hx hb dX11_amountAt_234 (by decide) ?_
                                refine lv_iadd hx hb dX11_amountAt_238 ?_
                                refine lv_istore (lv' := [(4, _), (2, _), (7, _), (6, _), (0, _), (1, _), (3, _), (5, _)]) hx hb dX11_amountAt_239 hl (by decide) rfl (fun ls hl => ?_)
                                refine lv_goto (tgt := 59) hx hb dX11_amountAt_241 (by decide) ?_
                                rw [nI_1] at hl
                                exact ih (k + 1) true rest (part + wz j 3) (by rw [if_pos rfl]; rw [if_pos rfl] at hm; omega) (by omega) (by omega) (hrest) (by rw [← hr, if_pos rfl, smF_go hlt etw hnk (by rw [hs]), hs, show k + 1 - i = k - i + 1 by omega, ← nI_1]; rfl) _ _ hP hD hS _ (lv_sub hl [4, 5, 1, 6, 0, 7] rfl)
                        · replace c_169 := bI_n0.mp c_169
                          refine lv_iload_n hx hb dX11_amountAt_172 rfl (lv_at hl 4 rfl) ?_
                          refine lv_if_le (tgt := 181) hx hb dX11_amountAt_173 (by decide) (fun c_173 => ?_) (fun c_173 => ?_)
                          · have c_173b : ¬ 0 < part := Int32.not_lt.mpr c_173
                            refine lv_iload_n hx hb dX11_amountAt_181 rfl (lv_at hl 4 rfl) ?_
                            refine lv_if_ne (tgt := 189) hx hb dX11_amountAt_182 (by decide) (fun c_182 => ?_) (fun c_182 => ?_)
                            · refine lv_iload hx hb dX11_amountAt_189 (lv_at hl 1 rfl) ?_
                              refine lv_iconst (v := 1) hx hb dX11_amountAt_191 (by decide) ?_
                              refine lv_bipush (v := 9) hx hb dX11_amountAt_192 (by decide) ?_
                              refine ro_S (n := 3) X hK (c_X11_in) gX11_amountAt_X11_in rfl (by decide +kernel) ⟨rfl, rfl⟩ ⟨Nat.le_of_ble_eq_true rfl, Nat.le_of_ble_eq_true rfl⟩ (hP.sub [] rfl) rfl hl.1 rfl (Nat.le_of_ble_eq_true rfl) dX11_amountAt_194 ⟨Nat.zero_le _, Nat.zero_le _⟩ ?_
                              refine lv_if_eq (tgt := 223) hx hb dX11_amountAt_197 (by decide) (fun c_197 => ?_) (fun c_197 => ?_)
                              · replace c_197 := bI_0.mp c_197
                                refine lv_iconst (v := 0) hx hb dX11_amountAt_223 (by decide) ?_
                                refine lv_istore (lv' := [(5, _), (7, _), (6, _), (0, _), (1, _), (2, _), (3, _), (4, _)]) hx hb dX11_amountAt_224 hl (by decide) rfl (fun ls hl => ?_)
                                have hs : sumA rest part (nI (k - i)) (wz j 3) = (false, rest, part, nI (k - i)) := by rw [sumA_in hne hrest]; simp [c_173b, eq_true c_106, c_116, eq_true c_132, c_143, c_169, c_173, c_182, c_197]
                                refine lv_iload hx hb dX11_amountAt_226 (lv_at hl 7 rfl) ?_
                                refine lv_iload hx hb dX11_amountAt_228 (lv_at hl 0 rfl) ?_
                                refine lv_if_eq (tgt := 237) hx hb dX11_amountAt_230 (by decide) (fun _ => ?_) (fun c_230 => absurd c_230 (by decide))
                                refine lv_iconst (v := 0) hx hb dX11_amountAt_237 (by decide) ?_
                                refine lv_iadd hx hb dX11_amountAt_238 ?_
                                refine lv_istore (lv' := [(4, _), (5, _), (7, _), (6, _), (0, _), (1, _), (2, _), (3, _)]) hx hb dX11_amountAt_239 hl (by decide) rfl (fun ls hl => ?_)
                                refine lv_goto (tgt := 59) hx hb dX11_amountAt_241 (by decide) ?_
                                rw [Int32.add_zero] at hl
                                exact ih k false rest part (by rw [if_neg (by decide)]; rw [if_pos rfl] at hm; omega) (by omega) (by omega) hrest (by rw [← hr, if_pos rfl, smF_no hlt etw hnk (by rw [hs]), hs]; rfl) _ _ hP hD hS _ (lv_sub hl [4, 5, 6, 7, 0, 1] rfl)
                              · replace c_197 := bI_n0.mp c_197
                                refine lv_iload hx hb dX11_amountAt_200 (lv_at hl 0 rfl) ?_
                                refine lv_bipush (v := 20) hx hb dX11_amountAt_202 (by decide) ?_
                                refine lv_icmp_lt (tgt := 223) hx hb dX11_amountAt_204 (by decide) (fun c_204 => ?_) (fun c_204 => ?_)
                                · refine lv_iconst (v := 0) hx hb dX11_amountAt_223 (by decide) ?_
                                  refine lv_istore (lv' := [(5, _), (7, _), (6, _), (0, _), (1, _), (2, _), (3, _), (4, _)]) hx hb dX11_amountAt_224 hl (by decide) rfl (fun ls hl => ?_)
                                  have hs : sumA rest part (nI (k - i)) (wz j 3) = (false, rest, part, nI (k - i)) := by rw [sumA_in hne hrest]; simp [c_173b, eq_true c_106, c_116, eq_true c_132, c_143, c_169, c_173, c_182, c_197, c_204]
                                  refine lv_iload hx hb dX11_amountAt_226 (lv_at hl 7 rfl) ?_
                                  refine lv_iload hx hb dX11_amountAt_228 (lv_at hl 0 rfl) ?_
                                  refine lv_if_eq (tgt := 237) hx hb dX11_amountAt_230 (by decide) (fun _ => ?_) (fun c_230 => absurd c_230 (by decide))
                                  refine lv_iconst (v := 0) hx hb dX11_amountAt_237 (by decide) ?_
                                  refine lv_iadd hx hb dX11_amountAt_238 ?_
                                  refine lv_istore (lv' := [(4, _), (5, _), (7, _), (6, _), (0, _), (1, _), (2, _), (3, _)]) hx hb dX11_amountAt_239 hl (by decide) rfl (fun ls hl => ?_)
                                  refine lv_goto (tgt := 59) hx hb dX11_amountAt_241 (by decide) ?_
                                  rw [Int32.add_zero] at hl
                                  exact ih k false rest part (by rw [if_neg (by decide)]; rw [if_pos rfl] at hm; omega) (by omega) (by omega) hrest (by rw [← hr, if_pos rfl, smF_no hlt etw hnk (by rw [hs]), hs]; rfl) _ _ hP hD hS _ (lv_sub hl [4, 5, 6, 7, 0, 1] rfl)
                                · refine lv_iload hx hb dX11_amountAt_207 (lv_at hl 0 rfl) ?_
                                  refine lv_bipush (v := 10) hx hb dX11_amountAt_209 (by decide) ?_
                                  refine lv_irem hx hb dX11_amountAt_211 (by decide) ?_
                                  refine lv_if_ne (tgt := 223) hx hb dX11_amountAt_212 (by decide) (fun c_212 => ?_) (fun c_212 => ?_)
                                  · refine lv_iconst (v := 0) hx hb dX11_amountAt_223 (by decide) ?_
                                    refine lv_istore (lv' := [(5, _), (7, _), (6, _), (0, _), (1, _), (2, _), (3, _), (4, _)]) hx hb dX11_amountAt_224 hl (by decide) rfl (fun ls hl => ?_)
                                    have hs : sumA rest part (nI (k - i)) (wz j 3) = (false, rest, part, nI (k - i)) := by rw [sumA_in hne hrest]; simp [c_173b, eq_true c_106, c_116, eq_true c_132, c_143, c_169, c_173, c_182, c_197, c_204, c_212]
                                    refine lv_iload hx hb dX11_amountAt_226 (lv_at hl 7 rfl) ?_
                                    refine lv_iload hx hb dX11_amountAt_228 (lv_at hl 0 rfl) ?_
                                    refine lv_if_eq (tgt := 237) hx hb dX11_amountAt_230 (by decide) (fun _ => ?_) (fun c_230 => absurd c_230 (by decide))
                                    refine lv_iconst (v := 0) hx hb dX11_amountAt_237 (by decide) ?_
                                    refine lv_iadd hx hb dX11_amountAt_238 ?_
                                    refine lv_istore (lv' := [(4, _), (5, _), (7, _), (6, _), (0, _), (1, _), (2, _), (3, _)]) hx hb dX11_amountAt_239 hl (by decide) rfl (fun ls hl => ?_)
                                    refine lv_goto (tgt := 59) hx hb dX11_amountAt_241 (by decide) ?_
                                    rw [Int32.add_zero] at hl
                                    exact ih k false rest part (by rw [if_neg (by decide)]; rw [if_pos rfl] at hm; omega) (by omega) (by omega) hrest (by rw [← hr, if_pos rfl, smF_no hlt etw hnk (by rw [hs]), hs]; rfl) _ _ hP hD hS _ (lv_sub hl [4, 5, 6, 7, 0, 1] rfl)
                                  · refine lv_iload_n hx hb dX11_amountAt_215 rfl (lv_at hl 4 rfl) ?_
                                    refine lv_iload hx hb dX11_amountAt_216 (lv_at hl 1 rfl) ?_
                                    refine lv_iadd hx hb dX11_amountAt_218 ?_
                                    refine lv_istore_n (lv' := [(2, _), (7, _), (6, _), (0, _), (1, _), (3, _), (4, _), (5, _)]) hx hb dX11_amountAt_219 rfl hl (by decide) rfl (fun ls hl => ?_)
                                    refine lv_goto (tgt := 226) hx hb dX11_amountAt_220 (by decide) ?_
                                    have hs : sumA rest part (nI (k - i)) (wz j 3) = (true, rest, part + wz j 3, nI (k - i) + 1) := by rw [sumA_in hne hrest]; simp [c_173b, eq_true c_106, c_116, eq_true c_132, c_143, c_169, c_173, c_182, c_197, c_204, eq_true c_212]
                                    refine lv_iload hx hb dX11_amountAt_226 (lv_at hl 6 rfl) ?_
                                    refine lv_iload hx hb dX11_amountAt_228 (lv_at hl 7 rfl) ?_
                                    refine lv_if_eq (tgt := 237) hx hb dX11_amountAt_230 (by decide) (fun c_230 => absurd c_230 (by decide)) (fun _ => ?_)
                                    refine lv_iconst (v := 1) hx hb dX11_amountAt_233 (by decide) ?_
                                    refine lv_goto (tgt := 238) hx hb dX11_amountAt_234 (by decide) ?_
                                    refine lv_iadd hx hb dX11_amountAt_238 ?_
                                    refine lv_istore (lv' := [(4, _), (2, _), (7, _), (6, _), (0, _), (1, _), (3, _), (5, _)]) hx hb dX11_amountAt_239 hl (by decide) rfl (fun ls hl => ?_)
                                    refine lv_goto (tgt := 59) hx hb dX11_amountAt_241 (by decide) ?_
                                    rw [nI_1] at hl
                                    exact ih (k + 1) true rest (part + wz j 3) (by rw [if_pos rfl]; rw [if_pos rfl] at hm; omega) (by omega) (by omega) (hrest) (by rw [← hr, if_pos rfl, smF_go hlt etw hnk (by rw [hs]), hs, show k + 1 - i = k - i + 1 by omega, ← nI_1]; rfl) _ _ hP hD hS _ (lv_sub hl [4, 5, 1, 6, 0, 7] rfl)
                            · refine lv_iload_n hx hb dX11_amountAt_185 rfl (lv_at hl 5 rfl) ?_
                              refine lv_if_gt (tgt := 215) hx hb dX11_amountAt_186 (by decide) (fun c_186 => ?_) (fun c_186 => ?_)
                              · refine lv_iload_n hx hb dX11_amountAt_215 rfl (lv_at hl 4 rfl) ?_
                                refine lv_iload hx hb dX11_amountAt_216 (lv_at hl 1 rfl) ?_
                                refine lv_iadd hx hb dX11_amountAt_218 ?_
                                refine lv_istore_n (lv' := [(2, _), (7, _), (6, _), (0, _), (1, _), (3, _), (4, _), (5, _)]) hx hb dX11_amountAt_219 rfl hl (by decide) rfl (fun ls hl => ?_)
                                refine lv_goto (tgt := 226) hx hb dX11_amountAt_220 (by decide) ?_
                                have hs : sumA rest part (nI (k - i)) (wz j 3) = (true, rest, part + wz j 3, nI (k - i) + 1) := by rw [sumA_in hne hrest]; simp [c_173b, eq_true c_106, c_116, eq_true c_132, c_143, c_169, c_173, eq_true c_182, c_186]
                                refine lv_iload hx hb dX11_amountAt_226 (lv_at hl 6 rfl) ?_
                                refine lv_iload hx hb dX11_amountAt_228 (lv_at hl 7 rfl) ?_
                                refine lv_if_eq (tgt := 237) hx hb dX11_amountAt_230 (by decide) (fun c_230 => absurd c_230 (by decide)) (fun _ => ?_)
                                refine lv_iconst (v := 1) hx hb dX11_amountAt_233 (by decide) ?_
                                refine lv_goto (tgt := 238) hx hb dX11_amountAt_234 (by decide) ?_
                                refine lv_iadd hx hb dX11_amountAt_238 ?_
                                refine lv_istore (lv' := [(4, _), (2, _), (7, _), (6, _), (0, _), (1, _), (3, _), (5, _)]) hx hb dX11_amountAt_239 hl (by decide) rfl (fun ls hl => ?_)
                                refine lv_goto (tgt := 59) hx hb dX11_amountAt_241 (by decide) ?_
                                rw [nI_1] at hl
                                exact ih (k + 1) true rest (part + wz j 3) (by rw [if_pos rfl]; rw [if_pos rfl] at hm; omega) (by omega) (by omega) (hrest) (by rw [← hr, if_pos rfl, smF_go hlt etw hnk (by rw [hs]), hs, show k + 1 - i = k - i + 1 by omega, ← nI_1]; rfl) _ _ hP hD hS _ (lv_sub hl [4, 5, 1, 6, 0, 7] rfl)
                              · refine lv_iload hx hb dX11_amountAt_189 (lv_at hl 1 rfl) ?_
                                refine lv_iconst (v := 1) hx hb dX11_amountAt_191 (by decide) ?_
                                refine lv_bipush (v := 9) hx hb dX11_amountAt_192 (by decide) ?_
                                refine ro_S (n := 3) X hK (c_X11_in) gX11_amountAt_X11_in rfl (by decide +kernel) ⟨rfl, rfl⟩ ⟨Nat.le_of_ble_eq_true rfl, Nat.le_of_ble_eq_true rfl⟩ (hP.sub [] rfl) rfl hl.1 rfl (Nat.le_of_ble_eq_true rfl) dX11_amountAt_194 ⟨Nat.zero_le _, Nat.zero_le _⟩ ?_
                                refine lv_if_eq (tgt := 223) hx hb dX11_amountAt_197 (by decide) (fun c_197 => ?_) (fun c_197 => ?_)
                                · replace c_197 := bI_0.mp c_197
                                  refine lv_iconst (v := 0) hx hb dX11_amountAt_223 (by decide) ?_
                                  refine lv_istore (lv' := [(5, _), (7, _), (6, _), (0, _), (1, _), (2, _), (3, _), (4, _)]) hx hb dX11_amountAt_224 hl (by decide) rfl (fun ls hl => ?_)
                                  have hs : sumA rest part (nI (k - i)) (wz j 3) = (false, rest, part, nI (k - i)) := by rw [sumA_in hne hrest]; simp [c_173b, eq_true c_106, c_116, eq_true c_132, c_143, c_169, c_173, eq_true c_182, c_186, c_197]
                                  refine lv_iload hx hb dX11_amountAt_226 (lv_at hl 7 rfl) ?_
                                  refine lv_iload hx hb dX11_amountAt_228 (lv_at hl 0 rfl) ?_
                                  refine lv_if_eq (tgt := 237) hx hb dX11_amountAt_230 (by decide) (fun _ => ?_) (fun c_230 => absurd c_230 (by decide))
                                  refine lv_iconst (v := 0) hx hb dX11_amountAt_237 (by decide) ?_
                                  refine lv_iadd hx hb dX11_amountAt_238 ?_
                                  refine lv_istore (lv' := [(4, _), (5, _), (7, _), (6, _), (0, _), (1, _), (2, _), (3, _)]) hx hb dX11_amountAt_239 hl (by decide) rfl (fun ls hl => ?_)
                                  refine lv_goto (tgt := 59) hx hb dX11_amountAt_241 (by decide) ?_
                                  rw [Int32.add_zero] at hl
                                  exact ih k false rest part (by rw [if_neg (by decide)]; rw [if_pos rfl] at hm; omega) (by omega) (by omega) hrest (by rw [← hr, if_pos rfl, smF_no hlt etw hnk (by rw [hs]), hs]; rfl) _ _ hP hD hS _ (lv_sub hl [4, 5, 6, 7, 0, 1] rfl)
                                · replace c_197 := bI_n0.mp c_197
                                  refine lv_iload hx hb dX11_amountAt_200 (lv_at hl 0 rfl) ?_
                                  refine lv_bipush (v := 20) hx hb dX11_amountAt_202 (by decide) ?_
                                  refine lv_icmp_lt (tgt := 223) hx hb dX11_amountAt_204 (by decide) (fun c_204 => ?_) (fun c_204 => ?_)
                                  · refine lv_iconst (v := 0) hx hb dX11_amountAt_223 (by decide) ?_
                                    refine lv_istore (lv' := [(5, _), (7, _), (6, _), (0, _), (1, _), (2, _), (3, _), (4, _)]) hx hb dX11_amountAt_224 hl (by decide) rfl (fun ls hl => ?_)
                                    have hs : sumA rest part (nI (k - i)) (wz j 3) = (false, rest, part, nI (k - i)) := by rw [sumA_in hne hrest]; simp [c_173b, eq_true c_106, c_116, eq_true c_132, c_143, c_169, c_173, eq_true c_182, c_186, c_197, c_204]
                                    refine lv_iload hx hb dX11_amountAt_226 (lv_at hl 7 rfl) ?_
                                    refine lv_iload hx hb dX11_amountAt_228 (lv_at hl 0 rfl) ?_
                                    refine lv_if_eq (tgt := 237) hx hb dX11_amountAt_230 (by decide) (fun _ => ?_) (fun c_230 => absurd c_230 (by decide))
                                    refine lv_iconst (v := 0) hx hb dX11_amountAt_237 (by decide) ?_
                                    refine lv_iadd hx hb dX11_amountAt_238 ?_
                                    refine lv_istore (lv' := [(4, _), (5, _), (7, _), (6, _), (0, _), (1, _), (2, _), (3, _)]) hx hb dX11_amountAt_239 hl (by decide) rfl (fun ls hl => ?_)
                                    refine lv_goto (tgt := 59) hx hb dX11_amountAt_241 (by decide) ?_
                                    rw [Int32.add_zero] at hl
                                    exact ih k false rest part (by rw [if_neg (by decide)]; rw [if_pos rfl] at hm; omega) (by omega) (by omega) hrest (by rw [← hr, if_pos rfl, smF_no hlt etw hnk (by rw [hs]), hs]; rfl) _ _ hP hD hS _ (lv_sub hl [4, 5, 6, 7, 0, 1] rfl)
                                  · refine lv_iload hx hb dX11_amountAt_207 (lv_at hl 0 rfl) ?_
                                    refine lv_bipush (v := 10) hx hb dX11_amountAt_209 (by decide) ?_
                                    refine lv_irem hx hb dX11_amountAt_211 (by decide) ?_
                                    refine lv_if_ne (tgt := 223) hx hb dX11_amountAt_212 (by decide) (fun c_212 => ?_) (fun c_212 => ?_)
                                    · refine lv_iconst (v := 0) hx hb dX11_amountAt_223 (by decide) ?_
                                      refine lv_istore (lv' := [(5, _), (7, _), (6, _), (0, _), (1, _), (2, _), (3, _), (4, _)]) hx hb dX11_amountAt_224 hl (by decide) rfl (fun ls hl => ?_)
                                      have hs : sumA rest part (nI (k - i)) (wz j 3) = (false, rest, part, nI (k - i)) := by rw [sumA_in hne hrest]; simp [c_173b, eq_true c_106, c_116, eq_true c_132, c_143, c_169, c_173, eq_true c_182, c_186, c_197, c_204, c_212]
                                      refine lv_iload hx hb dX11_amountAt_226 (lv_at hl 7 rfl) ?_
                                      refine lv_iload hx hb dX11_amountAt_228 (lv_at hl 0 rfl) ?_
                                      refine lv_if_eq (tgt := 237) hx hb dX11_amountAt_230 (by decide) (fun _ => ?_) (fun c_230 => absurd c_230 (by decide))
                                      refine lv_iconst (v := 0) hx hb dX11_amountAt_237 (by decide) ?_
                                      refine lv_iadd hx hb dX11_amountAt_238 ?_
                                      refine lv_istore (lv' := [(4, _), (5, _), (7, _), (6, _), (0, _), (1, _), (2, _), (3, _)]) hx hb dX11_amountAt_239 hl (by decide) rfl (fun ls hl => ?_)
                                      refine lv_goto (tgt := 59) hx hb dX11_amountAt_241 (by decide) ?_
                                      rw [Int32.add_zero] at hl
                                      exact ih k false rest part (by rw [if_neg (by decide)]; rw [if_pos rfl] at hm; omega) (by omega) (by omega) hrest (by rw [← hr, if_pos rfl, smF_no hlt etw hnk (by rw [hs]), hs]; rfl) _ _ hP hD hS _ (lv_sub hl [4, 5, 6, 7, 0, 1] rfl)
                                    · refine lv_iload_n hx hb dX11_amountAt_215 rfl (lv_at hl 4 rfl) ?_
                                      refine lv_iload hx hb dX11_amountAt_216 (lv_at hl 1 rfl) ?_
                                      refine lv_iadd hx hb dX11_amountAt_218 ?_
                                      refine lv_istore_n (lv' := [(2, _), (7, _), (6, _), (0, _), (1, _), (3, _), (4, _), (5, _)]) hx hb dX11_amountAt_219 rfl hl (by decide) rfl (fun ls hl => ?_)
                                      refine lv_goto (tgt := 226) hx hb dX11_amountAt_220 (by decide) ?_
                                      have hs : sumA rest part (nI (k - i)) (wz j 3) = (true, rest, part + wz j 3, nI (k - i) + 1) := by rw [sumA_in hne hrest]; simp [c_173b, eq_true c_106, c_116, eq_true c_132, c_143, c_169, c_173, eq_true c_182, c_186, c_197, c_204, eq_true c_212]
                                      refine lv_iload hx hb dX11_amountAt_226 (lv_at hl 6 rfl) ?_
                                      refine lv_iload hx hb dX11_amountAt_228 (lv_at hl 7 rfl) ?_
                                      refine lv_if_eq (tgt := 237) hx hb dX11_amountAt_230 (by decide) (fun c_230 => absurd c_230 (by decide)) (fun _ => ?_)
                                      refine lv_iconst (v := 1) hx hb dX11_amountAt_233 (by decide) ?_
                                      refine lv_goto (tgt := 238) hx hb dX11_amountAt_234 (by decide) ?_
                                      refine lv_iadd hx hb dX11_amountAt_238 ?_
                                      refine lv_istore (lv' := [(4, _), (2, _), (7, _), (6, _), (0, _), (1, _), (3, _), (5, _)]) hx hb dX11_amountAt_239 hl (by decide) rfl (fun ls hl => ?_)
                                      refine lv_goto (tgt := 59) hx hb dX11_amountAt_241 (by decide) ?_
                                      rw [nI_1] at hl
                                      exact ih (k + 1) true rest (part + wz j 3) (by rw [if_pos rfl]; rw [if_pos rfl] at hm; omega) (by omega) (by omega) (hrest) (by rw [← hr, if_pos rfl, smF_go hlt etw hnk (by rw [hs]), hs, show k + 1 - i = k - i + 1 by omega, ← nI_1]; rfl) _ _ hP hD hS _ (lv_sub hl [4, 5, 1, 6, 0, 7] rfl)
                          · have c_173b : 0 < part := Int32.not_le.mp c_173
                            refine lv_iload hx hb dX11_amountAt_176 (lv_at hl 0 rfl) ?_
                            refine lv_if_eq (tgt := 215) hx hb dX11_amountAt_178 (by decide) (fun c_178 => ?_) (fun c_178 => ?_)
                            · refine lv_iload_n hx hb dX11_amountAt_215 rfl (lv_at hl 4 rfl) ?_
                              refine lv_iload hx hb dX11_amountAt_216 (lv_at hl 1 rfl) ?_
                              refine lv_iadd hx hb dX11_amountAt_218 ?_
                              refine lv_istore_n (lv' := [(2, _), (7, _), (6, _), (0, _), (1, _), (3, _), (4, _), (5, _)]) hx hb dX11_amountAt_219 rfl hl (by decide) rfl (fun ls hl => ?_)
                              refine lv_goto (tgt := 226) hx hb dX11_amountAt_220 (by decide) ?_
                              have hs : sumA rest part (nI (k - i)) (wz j 3) = (true, rest, part + wz j 3, nI (k - i) + 1) := by rw [sumA_in hne hrest]; simp [c_173b, eq_true c_106, c_116, eq_true c_132, c_143, c_169, c_173, eq_true c_178]
                              refine lv_iload hx hb dX11_amountAt_226 (lv_at hl 6 rfl) ?_
                              refine lv_iload hx hb dX11_amountAt_228 (lv_at hl 7 rfl) ?_
                              refine lv_if_eq (tgt := 237) hx hb dX11_amountAt_230 (by decide) (fun c_230 => absurd c_230 (by decide)) (fun _ => ?_)
                              refine lv_iconst (v := 1) hx hb dX11_amountAt_233 (by decide) ?_
                              refine lv_goto (tgt := 238) hx hb dX11_amountAt_234 (by decide) ?_
                              refine lv_iadd hx hb dX11_amountAt_238 ?_
                              refine lv_istore (lv' := [(4, _), (2, _), (7, _), (6, _), (0, _), (1, _), (3, _), (5, _)]) hx hb dX11_amountAt_239 hl (by decide) rfl (fun ls hl => ?_)
                              refine lv_goto (tgt := 59) hx hb dX11_amountAt_241 (by decide) ?_
                              rw [nI_1] at hl
                              exact ih (k + 1) true rest (part + wz j 3) (by rw [if_pos rfl]; rw [if_pos rfl] at hm; omega) (by omega) (by omega) (hrest) (by rw [← hr, if_pos rfl, smF_go hlt etw hnk (by rw [hs]), hs, show k + 1 - i = k - i + 1 by omega, ← nI_1]; rfl) _ _ hP hD hS _ (lv_sub hl [4, 5, 1, 6, 0, 7] rfl)
                            · refine lv_iload_n hx hb dX11_amountAt_181 rfl (lv_at hl 4 rfl) ?_
                              refine lv_if_ne (tgt := 189) hx hb dX11_amountAt_182 (by decide) (fun c_182 => ?_) (fun c_182 => ?_)
                              · refine lv_iload hx hb dX11_amountAt_189 (lv_at hl 1 rfl) ?_
                                refine lv_iconst (v := 1) hx hb dX11_amountAt_191 (by decide) ?_
                                refine lv_bipush (v := 9) hx hb dX11_amountAt_192 (by decide) ?_
                                refine ro_S (n := 3) X hK (c_X11_in) gX11_amountAt_X11_in rfl (by decide +kernel) ⟨rfl, rfl⟩ ⟨Nat.le_of_ble_eq_true rfl, Nat.le_of_ble_eq_true rfl⟩ (hP.sub [] rfl) rfl hl.1 rfl (Nat.le_of_ble_eq_true rfl) dX11_amountAt_194 ⟨Nat.zero_le _, Nat.zero_le _⟩ ?_
                                refine lv_if_eq (tgt := 223) hx hb dX11_amountAt_197 (by decide) (fun c_197 => ?_) (fun c_197 => ?_)
                                · replace c_197 := bI_0.mp c_197
                                  refine lv_iconst (v := 0) hx hb dX11_amountAt_223 (by decide) ?_
                                  refine lv_istore (lv' := [(5, _), (7, _), (6, _), (0, _), (1, _), (2, _), (3, _), (4, _)]) hx hb dX11_amountAt_224 hl (by decide) rfl (fun ls hl => ?_)
                                  have hs : sumA rest part (nI (k - i)) (wz j 3) = (false, rest, part, nI (k - i)) := by rw [sumA_in hne hrest]; simp [c_173b, eq_true c_106, c_116, eq_true c_132, c_143, c_169, c_173, c_178, c_182, c_197]
                                  refine lv_iload hx hb dX11_amountAt_226 (lv_at hl 7 rfl) ?_
                                  refine lv_iload hx hb dX11_amountAt_228 (lv_at hl 0 rfl) ?_
                                  refine lv_if_eq (tgt := 237) hx hb dX11_amountAt_230 (by decide) (fun _ => ?_) (fun c_230 => absurd c_230 (by decide))
                                  refine lv_iconst (v := 0) hx hb dX11_amountAt_237 (by decide) ?_
                                  refine lv_iadd hx hb dX11_amountAt_238 ?_
                                  refine lv_istore (lv' := [(4, _), (5, _), (7, _), (6, _), (0, _), (1, _), (2, _), (3, _)]) hx hb dX11_amountAt_239 hl (by decide) rfl (fun ls hl => ?_)
                                  refine lv_goto (tgt := 59) hx hb dX11_amountAt_241 (by decide) ?_
                                  rw [Int32.add_zero] at hl
                                  exact ih k false rest part (by rw [if_neg (by decide)]; rw [if_pos rfl] at hm; omega) (by omega) (by omega) hrest (by rw [← hr, if_pos rfl, smF_no hlt etw hnk (by rw [hs]), hs]; rfl) _ _ hP hD hS _ (lv_sub hl [4, 5, 6, 7, 0, 1] rfl)
                                · replace c_197 := bI_n0.mp c_197
                                  refine lv_iload hx hb dX11_amountAt_200 (lv_at hl 0 rfl) ?_
                                  refine lv_bipush (v := 20) hx hb dX11_amountAt_202 (by decide) ?_
                                  refine lv_icmp_lt (tgt := 223) hx hb dX11_amountAt_204 (by decide) (fun c_204 => ?_) (fun c_204 => ?_)
                                  · refine lv_iconst (v := 0) hx hb dX11_amountAt_223 (by decide) ?_
                                    refine lv_istore (lv' := [(5, _), (7, _), (6, _), (0, _), (1, _), (2, _), (3, _), (4, _)]) hx hb dX11_amountAt_224 hl (by decide) rfl (fun ls hl => ?_)
                                    have hs : sumA rest part (nI (k - i)) (wz j 3) = (false, rest, part, nI (k - i)) := by rw [sumA_in hne hrest]; simp [c_173b, eq_true c_106, c_116, eq_true c_132, c_143, c_169, c_173, c_178, c_182, c_197, c_204]
                                    refine lv_iload hx hb dX11_amountAt_226 (lv_at hl 7 rfl) ?_
                                    refine lv_iload hx hb dX11_amountAt_228 (lv_at hl 0 rfl) ?_
                                    refine lv_if_eq (tgt := 237) hx hb dX11_amountAt_230 (by decide) (fun _ => ?_) (fun c_230 => absurd c_230 (by decide))
                                    refine lv_iconst (v := 0) hx hb dX11_amountAt_237 (by decide) ?_
                                    refine lv_iadd hx hb dX11_amountAt_238 ?_
                                    refine lv_istore (lv' := [(4, _), (5, _), (7, _), (6, _), (0, _), (1, _), (2, _), (3, _)]) hx hb dX11_amountAt_239 hl (by decide) rfl (fun ls hl => ?_)
                                    refine lv_goto (tgt := 59) hx hb dX11_amountAt_241 (by decide) ?_
                                    rw [Int32.add_zero] at hl
                                    exact ih k false rest part (by rw [if_neg (by decide)]; rw [if_pos rfl] at hm; omega) (by omega) (by omega) hrest (by rw [← hr, if_pos rfl, smF_no hlt etw hnk (by rw [hs]), hs]; rfl) _ _ hP hD hS _ (lv_sub hl [4, 5, 6, 7, 0, 1] rfl)
                                  · refine lv_iload hx hb dX11_amountAt_207 (lv_at hl 0 rfl) ?_
                                    refine lv_bipush (v := 10) hx hb dX11_amountAt_209 (by decide) ?_
                                    refine lv_irem hx hb dX11_amountAt_211 (by decide) ?_
                                    refine lv_if_ne (tgt := 223) hx hb dX11_amountAt_212 (by decide) (fun c_212 => ?_) (fun c_212 => ?_)
                                    · refine lv_iconst (v := 0) hx hb dX11_amountAt_223 (by decide) ?_
                                      refine lv_istore (lv' := [(5, _), (7, _), (6, _), (0, _), (1, _), (2, _), (3, _), (4, _)]) hx hb dX11_amountAt_224 hl (by decide) rfl (fun ls hl => ?_)
                                      have hs : sumA rest part (nI (k - i)) (wz j 3) = (false, rest, part, nI (k - i)) := by rw [sumA_in hne hrest]; simp [c_173b, eq_true c_106, c_116, eq_true c_132, c_143, c_169, c_173, c_178, c_182, c_197, c_204, c_212]
                                      refine lv_iload hx hb dX11_amountAt_226 (lv_at hl 7 rfl) ?_
                                      refine lv_iload hx hb dX11_amountAt_228 (lv_at hl 0 rfl) ?_
                                      refine lv_if_eq (tgt := 237) hx hb dX11_amountAt_230 (by decide) (fun _ => ?_) (fun c_230 => absurd c_230 (by decide))
                                      refine lv_iconst (v := 0) hx hb dX11_amountAt_237 (by decide) ?_
                                      refine lv_iadd hx hb dX11_amountAt_238 ?_
                                      refine lv_istore (lv' := [(4, _), (5, _), (7, _), (6, _), (0, _), (1, _), (2, _), (3, _)]) hx hb dX11_amountAt_239 hl (by decide) rfl (fun ls hl => ?_)
                                      refine lv_goto (tgt := 59) hx hb dX11_amountAt_241 (by decide) ?_
                                      rw [Int32.add_zero] at hl
                                      exact ih k false rest part (by rw [if_neg (by decide)]; rw [if_pos rfl] at hm; omega) (by omega) (by omega) hrest (by rw [← hr, if_pos rfl, smF_no hlt etw hnk (by rw [hs]), hs]; rfl) _ _ hP hD hS _ (lv_sub hl [4, 5, 6, 7, 0, 1] rfl)
                                    · refine lv_iload_n hx hb dX11_amountAt_215 rfl (lv_at hl 4 rfl) ?_
                                      refine lv_iload hx hb dX11_amountAt_216 (lv_at hl 1 rfl) ?_
                                      refine lv_iadd hx hb dX11_amountAt_218 ?_
                                      refine lv_istore_n (lv' := [(2, _), (7, _), (6, _), (0, _), (1, _), (3, _), (4, _), (5, _)]) hx hb dX11_amountAt_219 rfl hl (by decide) rfl (fun ls hl => ?_)
                                      refine lv_goto (tgt := 226) hx hb dX11_amountAt_220 (by decide) ?_
                                      have hs : sumA rest part (nI (k - i)) (wz j 3) = (true, rest, part + wz j 3, nI (k - i) + 1) := by rw [sumA_in hne hrest]; simp [c_173b, eq_true c_106, c_116, eq_true c_132, c_143, c_169, c_173, c_178, c_182, c_197, c_204, eq_true c_212]
                                      refine lv_iload hx hb dX11_amountAt_226 (lv_at hl 6 rfl) ?_
                                      refine lv_iload hx hb dX11_amountAt_228 (lv_at hl 7 rfl) ?_
                                      refine lv_if_eq (tgt := 237) hx hb dX11_amountAt_230 (by decide) (fun c_230 => absurd c_230 (by decide)) (fun _ => ?_)
                                      refine lv_iconst (v := 1) hx hb dX11_amountAt_233 (by decide) ?_
                                      refine lv_goto (tgt := 238) hx hb dX11_amountAt_234 (by decide) ?_
                                      refine lv_iadd hx hb dX11_amountAt_238 ?_
                                      refine lv_istore (lv' := [(4, _), (2, _), (7, _), (6, _), (0, _), (1, _), (3, _), (5, _)]) hx hb dX11_amountAt_239 hl (by decide) rfl (fun ls hl => ?_)
                                      refine lv_goto (tgt := 59) hx hb dX11_amountAt_241 (by decide) ?_
                                      rw [nI_1] at hl
                                      exact ih (k + 1) true rest (part + wz j 3) (by rw [if_pos rfl]; rw [if_pos rfl] at hm; omega) (by omega) (by omega) (hrest) (by rw [← hr, if_pos rfl, smF_go hlt etw hnk (by rw [hs]), hs, show k + 1 - i = k - i + 1 by omega, ← nI_1]; rfl) _ _ hP hD hS _ (lv_sub hl [4, 5, 1, 6, 0, 7] rfl)
                              · exact absurd c_173b (by rw [c_182]; decide)
                      · replace c_143 := bI_n0.mp c_143
                        refine lv_iload_n hx hb dX11_amountAt_146 rfl (lv_at hl 5 rfl) ?_
                        refine lv_if_ne (tgt := 161) hx hb dX11_amountAt_147 (by decide) (fun c_147 => ?_) (fun c_147 => ?_)
                        · refine lv_iload hx hb dX11_amountAt_161 (lv_at hl 1 rfl) ?_
                          refine lv_iconst (v := 1) hx hb dX11_amountAt_163 (by decide) ?_
                          refine lv_bipush (v := 99) hx hb dX11_amountAt_164 (by decide) ?_
                          refine ro_S (n := 3) X hK (c_X11_in) gX11_amountAt_X11_in rfl (by decide +kernel) ⟨rfl, rfl⟩ ⟨Nat.le_of_ble_eq_true rfl, Nat.le_of_ble_eq_true rfl⟩ (hP.sub [] rfl) rfl hl.1 rfl (Nat.le_of_ble_eq_true rfl) dX11_amountAt_166 ⟨Nat.zero_le _, Nat.zero_le _⟩ ?_
                          refine lv_if_eq (tgt := 189) hx hb dX11_amountAt_169 (by decide) (fun c_169 => ?_) (fun c_169 => ?_)
                          · replace c_169 := bI_0.mp c_169
                            refine lv_iload hx hb dX11_amountAt_189 (lv_at hl 1 rfl) ?_
                            refine lv_iconst (v := 1) hx hb dX11_amountAt_191 (by decide) ?_
                            refine lv_bipush (v := 9) hx hb dX11_amountAt_192 (by decide) ?_
                            refine ro_S (n := 3) X hK (c_X11_in) gX11_amountAt_X11_in rfl (by decide +kernel) ⟨rfl, rfl⟩ ⟨Nat.le_of_ble_eq_true rfl, Nat.le_of_ble_eq_true rfl⟩ (hP.sub [] rfl) rfl hl.1 rfl (Nat.le_of_ble_eq_true rfl) dX11_amountAt_194 ⟨Nat.zero_le _, Nat.zero_le _⟩ ?_
                            refine lv_if_eq (tgt := 223) hx hb dX11_amountAt_197 (by decide) (fun c_197 => ?_) (fun c_197 => ?_)
                            · replace c_197 := bI_0.mp c_197
                              refine lv_iconst (v := 0) hx hb dX11_amountAt_223 (by decide) ?_
                              refine lv_istore (lv' := [(5, _), (7, _), (6, _), (0, _), (1, _), (2, _), (3, _), (4, _)]) hx hb dX11_amountAt_224 hl (by decide) rfl (fun ls hl => ?_)
                              have hs : sumA rest part (nI (k - i)) (wz j 3) = (false, rest, part, nI (k - i)) := by rw [sumA_in hne hrest]; simp [eq_true c_106, c_116, eq_true c_132, c_143, c_147, c_169, c_197]
                              refine lv_iload hx hb dX11_amountAt_226 (lv_at hl 7 rfl) ?_
                              refine lv_iload hx hb dX11_amountAt_228 (lv_at hl 0 rfl) ?_
                              refine lv_if_eq (tgt := 237) hx hb dX11_amountAt_230 (by decide) (fun _ => ?_) (fun c_230 => absurd c_230 (by decide))
                              refine lv_iconst (v := 0) hx hb dX11_amountAt_237 (by decide) ?_
                              refine lv_iadd hx hb dX11_amountAt_238 ?_
                              refine lv_istore (lv' := [(4, _), (5, _), (7, _), (6, _), (0, _), (1, _), (2, _), (3, _)]) hx hb dX11_amountAt_239 hl (by decide) rfl (fun ls hl => ?_)
                              refine lv_goto (tgt := 59) hx hb dX11_amountAt_241 (by decide) ?_
                              rw [Int32.add_zero] at hl
                              exact ih k false rest part (by rw [if_neg (by decide)]; rw [if_pos rfl] at hm; omega) (by omega) (by omega) hrest (by rw [← hr, if_pos rfl, smF_no hlt etw hnk (by rw [hs]), hs]; rfl) _ _ hP hD hS _ (lv_sub hl [4, 5, 6, 7, 0, 1] rfl)
                            · replace c_197 := bI_n0.mp c_197
                              refine lv_iload hx hb dX11_amountAt_200 (lv_at hl 0 rfl) ?_
                              refine lv_bipush (v := 20) hx hb dX11_amountAt_202 (by decide) ?_
                              refine lv_icmp_lt (tgt := 223) hx hb dX11_amountAt_204 (by decide) (fun c_204 => ?_) (fun c_204 => ?_)
                              · refine lv_iconst (v := 0) hx hb dX11_amountAt_223 (by decide) ?_
                                refine lv_istore (lv' := [(5, _), (7, _), (6, _), (0, _), (1, _), (2, _), (3, _), (4, _)]) hx hb dX11_amountAt_224 hl (by decide) rfl (fun ls hl => ?_)
                                have hs : sumA rest part (nI (k - i)) (wz j 3) = (false, rest, part, nI (k - i)) := by rw [sumA_in hne hrest]; simp [eq_true c_106, c_116, eq_true c_132, c_143, c_147, c_169, c_197, c_204]
                                refine lv_iload hx hb dX11_amountAt_226 (lv_at hl 7 rfl) ?_
                                refine lv_iload hx hb dX11_amountAt_228 (lv_at hl 0 rfl) ?_
                                refine lv_if_eq (tgt := 237) hx hb dX11_amountAt_230 (by decide) (fun _ => ?_) (fun c_230 => absurd c_230 (by decide))
                                refine lv_iconst (v := 0) hx hb dX11_amountAt_237 (by decide) ?_
                                refine lv_iadd hx hb dX11_amountAt_238 ?_
                                refine lv_istore (lv' := [(4, _), (5, _), (7, _), (6, _), (0, _), (1, _), (2, _), (3, _)]) hx hb dX11_amountAt_239 hl (by decide) rfl (fun ls hl => ?_)
                                refine lv_goto (tgt := 59) hx hb dX11_amountAt_241 (by decide) ?_
                                rw [Int32.add_zero] at hl
                                exact ih k false rest part (by rw [if_neg (by decide)]; rw [if_pos rfl] at hm; omega) (by omega) (by omega) hrest (by rw [← hr, if_pos rfl, smF_no hlt etw hnk (by rw [hs]), hs]; rfl) _ _ hP hD hS _ (lv_sub hl [4, 5, 6, 7, 0, 1] rfl)
                              · refine lv_iload hx hb dX11_amountAt_207 (lv_at hl 0 rfl) ?_
                                refine lv_bipush (v := 10) hx hb dX11_amountAt_209 (by decide) ?_
                                refine lv_irem hx hb dX11_amountAt_211 (by decide) ?_
                                refine lv_if_ne (tgt := 223) hx hb dX11_amountAt_212 (by decide) (fun c_212 => ?_) (fun c_212 => ?_)
                                · refine lv_iconst (v := 0) hx hb dX11_amountAt_223 (by decide) ?_
                                  refine lv_istore (lv' := [(5, _), (7, _), (6, _), (0, _), (1, _), (2, _), (3, _), (4, _)]) hx hb dX11_amountAt_224 hl (by decide) rfl (fun ls hl => ?_)
                                  have hs : sumA rest part (nI (k - i)) (wz j 3) = (false, rest, part, nI (k - i)) := by rw [sumA_in hne hrest]; simp [eq_true c_106, c_116, eq_true c_132, c_143, c_147, c_169, c_197, c_204, c_212]
                                  refine lv_iload hx hb dX11_amountAt_226 (lv_at hl 7 rfl) ?_
                                  refine lv_iload hx hb dX11_amountAt_228 (lv_at hl 0 rfl) ?_
                                  refine lv_if_eq (tgt := 237) hx hb dX11_amountAt_230 (by decide) (fun _ => ?_) (fun c_230 => absurd c_230 (by decide))
                                  refine lv_iconst (v := 0) hx hb dX11_amountAt_237 (by decide) ?_
                                  refine lv_iadd hx hb dX11_amountAt_238 ?_
                                  refine lv_istore (lv' := [(4, _), (5, _), (7, _), (6, _), (0, _), (1, _), (2, _), (3, _)]) hx hb dX11_amountAt_239 hl (by decide) rfl (fun ls hl => ?_)
                                  refine lv_goto (tgt := 59) hx hb dX11_amountAt_241 (by decide) ?_
                                  rw [Int32.add_zero] at hl
                                  exact ih k false rest part (by rw [if_neg (by decide)]; rw [if_pos rfl] at hm; omega) (by omega) (by omega) hrest (by rw [← hr, if_pos rfl, smF_no hlt etw hnk (by rw [hs]), hs]; rfl) _ _ hP hD hS _ (lv_sub hl [4, 5, 6, 7, 0, 1] rfl)
                                · refine lv_iload_n hx hb dX11_amountAt_215 rfl (lv_at hl 4 rfl) ?_
                                  refine lv_iload hx hb dX11_amountAt_216 (lv_at hl 1 rfl) ?_
                                  refine lv_iadd hx hb dX11_amountAt_218 ?_
                                  refine lv_istore_n (lv' := [(2, _), (7, _), (6, _), (0, _), (1, _), (3, _), (4, _), (5, _)]) hx hb dX11_amountAt_219 rfl hl (by decide) rfl (fun ls hl => ?_)
                                  refine lv_goto (tgt := 226) hx hb dX11_amountAt_220 (by decide) ?_
                                  have hs : sumA rest part (nI (k - i)) (wz j 3) = (true, rest, part + wz j 3, nI (k - i) + 1) := by rw [sumA_in hne hrest]; simp [eq_true c_106, c_116, eq_true c_132, c_143, c_147, c_169, c_197, c_204, eq_true c_212]
                                  refine lv_iload hx hb dX11_amountAt_226 (lv_at hl 6 rfl) ?_
                                  refine lv_iload hx hb dX11_amountAt_228 (lv_at hl 7 rfl) ?_
                                  refine lv_if_eq (tgt := 237) hx hb dX11_amountAt_230 (by decide) (fun c_230 => absurd c_230 (by decide)) (fun _ => ?_)
                                  refine lv_iconst (v := 1) hx hb dX11_amountAt_233 (by decide) ?_
                                  refine lv_goto (tgt := 238) hx hb dX11_amountAt_234 (by decide) ?_
                                  refine lv_iadd hx hb dX11_amountAt_238 ?_
                                  refine lv_istore (lv' := [(4, _), (2, _), (7, _), (6, _), (0, _), (1, _), (3, _), (5, _)]) hx hb dX11_amountAt_239 hl (by decide) rfl (fun ls hl => ?_)
                                  refine lv_goto (tgt := 59) hx hb dX11_amountAt_241 (by decide) ?_
                                  rw [nI_1] at hl
                                  exact ih (k + 1) true rest (part + wz j 3) (by rw [if_pos rfl]; rw [if_pos rfl] at hm; omega) (by omega) (by omega) (hrest) (by rw [← hr, if_pos rfl, smF_go hlt etw hnk (by rw [hs]), hs, show k + 1 - i = k - i + 1 by omega, ← nI_1]; rfl) _ _ hP hD hS _ (lv_sub hl [4, 5, 1, 6, 0, 7] rfl)
                          · replace c_169 := bI_n0.mp c_169
                            refine lv_iload_n hx hb dX11_amountAt_172 rfl (lv_at hl 4 rfl) ?_
                            refine lv_if_le (tgt := 181) hx hb dX11_amountAt_173 (by decide) (fun c_173 => ?_) (fun c_173 => ?_)
                            · have c_173b : ¬ 0 < part := Int32.not_lt.mpr c_173
                              refine lv_iload_n hx hb dX11_amountAt_181 rfl (lv_at hl 4 rfl) ?_
                              refine lv_if_ne (tgt := 189) hx hb dX11_amountAt_182 (by decide) (fun c_182 => ?_) (fun c_182 => ?_)
                              · refine lv_iload hx hb dX11_amountAt_189 (lv_at hl 1 rfl) ?_
                                refine lv_iconst (v := 1) hx hb dX11_amountAt_191 (by decide) ?_
                                refine lv_bipush (v := 9) hx hb dX11_amountAt_192 (by decide) ?_
                                refine ro_S (n := 3) X hK (c_X11_in) gX11_amountAt_X11_in rfl (by decide +kernel) ⟨rfl, rfl⟩ ⟨Nat.le_of_ble_eq_true rfl, Nat.le_of_ble_eq_true rfl⟩ (hP.sub [] rfl) rfl hl.1 rfl (Nat.le_of_ble_eq_true rfl) dX11_amountAt_194 ⟨Nat.zero_le _, Nat.zero_le _⟩ ?_
                                refine lv_if_eq (tgt := 223) hx hb dX11_amountAt_197 (by decide) (fun c_197 => ?_) (fun c_197 => ?_)
                                · replace c_197 := bI_0.mp c_197
                                  refine lv_iconst (v := 0) hx hb dX11_amountAt_223 (by decide) ?_
                                  refine lv_istore (lv' := [(5, _), (7, _), (6, _), (0, _), (1, _), (2, _), (3, _), (4, _)]) hx hb dX11_amountAt_224 hl (by decide) rfl (fun ls hl => ?_)
                                  have hs : sumA rest part (nI (k - i)) (wz j 3) = (false, rest, part, nI (k - i)) := by rw [sumA_in hne hrest]; simp [c_173b, eq_true c_106, c_116, eq_true c_132, c_143, c_147, c_169, c_173, c_182, c_197]
                                  refine lv_iload hx hb dX11_amountAt_226 (lv_at hl 7 rfl) ?_
                                  refine lv_iload hx hb dX11_amountAt_228 (lv_at hl 0 rfl) ?_
                                  refine lv_if_eq (tgt := 237) hx hb dX11_amountAt_230 (by decide) (fun _ => ?_) (fun c_230 => absurd c_230 (by decide))
                                  refine lv_iconst (v := 0) hx hb dX11_amountAt_237 (by decide) ?_
                                  refine lv_iadd hx hb dX11_amountAt_238 ?_
                                  refine lv_istore (lv' := [(4, _), (5, _), (7, _), (6, _), (0, _), (1, _), (2, _), (3, _)]) hx hb dX11_amountAt_239 hl (by decide) rfl (fun ls hl => ?_)
                                  refine lv_goto (tgt := 59) hx hb dX11_amountAt_241 (by decide) ?_
                                  rw [Int32.add_zero] at hl
                                  exact ih k false rest part (by rw [if_neg (by decide)]; rw [if_pos rfl] at hm; omega) (by omega) (by omega) hrest (by rw [← hr, if_pos rfl, smF_no hlt etw hnk (by rw [hs]), hs]; rfl) _ _ hP hD hS _ (lv_sub hl [4, 5, 6, 7, 0, 1] rfl)
                                · replace c_197 := bI_n0.mp c_197
                                  refine lv_iload hx hb dX11_amountAt_200 (lv_at hl 0 rfl) ?_
                                  refine lv_bipush (v := 20) hx hb dX11_amountAt_202 (by decide) ?_
                                  refine lv_icmp_lt (tgt := 223) hx hb dX11_amountAt_204 (by decide) (fun c_204 => ?_) (fun c_204 => ?_)
                                  · refine lv_iconst (v := 0) hx hb dX11_amountAt_223 (by decide) ?_
                                    refine lv_istore (lv' := [(5, _), (7, _), (6, _), (0, _), (1, _), (2, _), (3, _), (4, _)]) hx hb dX11_amountAt_224 hl (by decide) rfl (fun ls hl => ?_)
                                    have hs : sumA rest part (nI (k - i)) (wz j 3) = (false, rest, part, nI (k - i)) := by rw [sumA_in hne hrest]; simp [c_173b, eq_true c_106, c_116, eq_true c_132, c_143, c_147, c_169, c_173, c_182, c_197, c_204]
                                    refine lv_iload hx hb dX11_amountAt_226 (lv_at hl 7 rfl) ?_
                                    refine lv_iload hx hb dX11_amountAt_228 (lv_at hl 0 rfl) ?_
                                    refine lv_if_eq (tgt := 237) hx hb dX11_amountAt_230 (by decide) (fun _ => ?_) (fun c_230 => absurd c_230 (by decide))
                                    refine lv_iconst (v := 0) hx hb dX11_amountAt_237 (by decide) ?_
                                    refine lv_iadd hx hb dX11_amountAt_238 ?_
                                    refine lv_istore (lv' := [(4, _), (5, _), (7, _), (6, _), (0, _), (1, _), (2, _), (3, _)]) hx hb dX11_amountAt_239 hl (by decide) rfl (fun ls hl => ?_)
                                    refine lv_goto (tgt := 59) hx hb dX11_amountAt_241 (by decide) ?_
                                    rw [Int32.add_zero] at hl
                                    exact ih k false rest part (by rw [if_neg (by decide)]; rw [if_pos rfl] at hm; omega) (by omega) (by omega) hrest (by rw [← hr, if_pos rfl, smF_no hlt etw hnk (by rw [hs]), hs]; rfl) _ _ hP hD hS _ (lv_sub hl [4, 5, 6, 7, 0, 1] rfl)
                                  · refine lv_iload hx hb dX11_amountAt_207 (lv_at hl 0 rfl) ?_
                                    refine lv_bipush (v := 10) hx hb dX11_amountAt_209 (by decide) ?_
                                    refine lv_irem hx hb dX11_amountAt_211 (by decide) ?_
                                    refine lv_if_ne (tgt := 223) hx hb dX11_amountAt_212 (by decide) (fun c_212 => ?_) (fun c_212 => ?_)
                                    · refine lv_iconst (v := 0) hx hb dX11_amountAt_223 (by decide) ?_
                                      refine lv_istore (lv' := [(5, _), (7, _), (6, _), (0, _), (1, _), (2, _), (3, _), (4, _)]) hx hb dX11_amountAt_224 hl (by decide) rfl (fun ls hl => ?_)
                                      have hs : sumA rest part (nI (k - i)) (wz j 3) = (false, rest, part, nI (k - i)) := by rw [sumA_in hne hrest]; simp [c_173b, eq_true c_106, c_116, eq_true c_132, c_143, c_147, c_169, c_173, c_182, c_197, c_204, c_212]
                                      refine lv_iload hx hb dX11_amountAt_226 (lv_at hl 7 rfl) ?_
                                      refine lv_iload hx hb dX11_amountAt_228 (lv_at hl 0 rfl) ?_
                                      refine lv_if_eq (tgt := 237) hx hb dX11_amountAt_230 (by decide) (fun _ => ?_) (fun c_230 => absurd c_230 (by decide))
                                      refine lv_iconst (v := 0) hx hb dX11_amountAt_237 (by decide) ?_
                                      refine lv_iadd hx hb dX11_amountAt_238 ?_
                                      refine lv_istore (lv' := [(4, _), (5, _), (7, _), (6, _), (0, _), (1, _), (2, _), (3, _)]) hx hb dX11_amountAt_239 hl (by decide) rfl (fun ls hl => ?_)
                                      refine lv_goto (tgt := 59) hx hb dX11_amountAt_241 (by decide) ?_
                                      rw [Int32.add_zero] at hl
                                      exact ih k false rest part (by rw [if_neg (by decide)]; rw [if_pos rfl] at hm; omega) (by omega) (by omega) hrest (by rw [← hr, if_pos rfl, smF_no hlt etw hnk (by rw [hs]), hs]; rfl) _ _ hP hD hS _ (lv_sub hl [4, 5, 6, 7, 0, 1] rfl)
                                    · refine lv_iload_n hx hb dX11_amountAt_215 rfl (lv_at hl 4 rfl) ?_
                                      refine lv_iload hx hb dX11_amountAt_216 (lv_at hl 1 rfl) ?_
                                      refine lv_iadd hx hb dX11_amountAt_218 ?_
                                      refine lv_istore_n (lv' := [(2, _), (7, _), (6, _), (0, _), (1, _), (3, _), (4, _), (5, _)]) hx hb dX11_amountAt_219 rfl hl (by decide) rfl (fun ls hl => ?_)
                                      refine lv_goto (tgt := 226) hx hb dX11_amountAt_220 (by decide) ?_
                                      have hs : sumA rest part (nI (k - i)) (wz j 3) = (true, rest, part + wz j 3, nI (k - i) + 1) := by rw [sumA_in hne hrest]; simp [c_173b, eq_true c_106, c_116, eq_true c_132, c_143, c_147, c_169, c_173, c_182, c_197, c_204, eq_true c_212]
                                      refine lv_iload hx hb dX11_amountAt_226 (lv_at hl 6 rfl) ?_
                                      refine lv_iload hx hb dX11_amountAt_228 (lv_at hl 7 rfl) ?_
                                      refine lv_if_eq (tgt := 237) hx hb dX11_amountAt_230 (by decide) (fun c_230 => absurd c_230 (by decide)) (fun _ => ?_)
                                      refine lv_iconst (v := 1) hx hb dX11_amountAt_233 (by decide) ?_
                                      refine lv_goto (tgt := 238) hx hb dX11_amountAt_234 (by decide) ?_
                                      refine lv_iadd hx hb dX11_amountAt_238 ?_
                                      refine lv_istore (lv' := [(4, _), (2, _), (7, _), (6, _), (0, _), (1, _), (3, _), (5, _)]) hx hb dX11_amountAt_239 hl (by decide) rfl (fun ls hl => ?_)
                                      refine lv_goto (tgt := 59) hx hb dX11_amountAt_241 (by decide) ?_
                                      rw [nI_1] at hl
                                      exact ih (k + 1) true rest (part + wz j 3) (by rw [if_pos rfl]; rw [if_pos rfl] at hm; omega) (by omega) (by omega) (hrest) (by rw [← hr, if_pos rfl, smF_go hlt etw hnk (by rw [hs]), hs, show k + 1 - i = k - i + 1 by omega, ← nI_1]; rfl) _ _ hP hD hS _ (lv_sub hl [4, 5, 1, 6, 0, 7] rfl)
                              · refine lv_iload_n hx hb dX11_amountAt_185 rfl (lv_at hl 5 rfl) ?_
                                refine lv_if_gt (tgt := 215) hx hb dX11_amountAt_186 (by decide) (fun c_186 => ?_) (fun c_186 => ?_)
                                · refine lv_iload_n hx hb dX11_amountAt_215 rfl (lv_at hl 4 rfl) ?_
                                  refine lv_iload hx hb dX11_amountAt_216 (lv_at hl 1 rfl) ?_
                                  refine lv_iadd hx hb dX11_amountAt_218 ?_
                                  refine lv_istore_n (lv' := [(2, _), (7, _), (6, _), (0, _), (1, _), (3, _), (4, _), (5, _)]) hx hb dX11_amountAt_219 rfl hl (by decide) rfl (fun ls hl => ?_)
                                  refine lv_goto (tgt := 226) hx hb dX11_amountAt_220 (by decide) ?_
                                  have hs : sumA rest part (nI (k - i)) (wz j 3) = (true, rest, part + wz j 3, nI (k - i) + 1) := by rw [sumA_in hne hrest]; simp [c_173b, eq_true c_106, c_116, eq_true c_132, c_143, c_147, c_169, c_173, eq_true c_182, c_186]
                                  refine lv_iload hx hb dX11_amountAt_226 (lv_at hl 6 rfl) ?_
                                  refine lv_iload hx hb dX11_amountAt_228 (lv_at hl 7 rfl) ?_
                                  refine lv_if_eq (tgt := 237) hx hb dX11_amountAt_230 (by decide) (fun c_230 => absurd c_230 (by decide)) (fun _ => ?_)
                                  refine lv_iconst (v := 1) hx hb dX11_amountAt_233 (by decide) ?_
                                  refine lv_goto (tgt := 238) hx hb dX11_amountAt_234 (by decide) ?_
                                  refine lv_iadd hx hb dX11_amountAt_238 ?_
                                  refine lv_istore (lv' := [(4, _), (2, _), (7, _), (6, _), (0, _), (1, _), (3, _), (5, _)]) hx hb dX11_amountAt_239 hl (by decide) rfl (fun ls hl => ?_)
                                  refine lv_goto (tgt := 59) hx hb dX11_amountAt_241 (by decide) ?_
                                  rw [nI_1] at hl
                                  exact ih (k + 1) true rest (part + wz j 3) (by rw [if_pos rfl]; rw [if_pos rfl] at hm; omega) (by omega) (by omega) (hrest) (by rw [← hr, if_pos rfl, smF_go hlt etw hnk (by rw [hs]), hs, show k + 1 - i = k - i + 1 by omega, ← nI_1]; rfl) _ _ hP hD hS _ (lv_sub hl [4, 5, 1, 6, 0, 7] rfl)
                                · refine lv_iload hx hb dX11_amountAt_189 (lv_at hl 1 rfl) ?_
                                  refine lv_iconst (v := 1) hx hb dX11_amountAt_191 (by decide) ?_
                                  refine lv_bipush (v := 9) hx hb dX11_amountAt_192 (by decide) ?_
                                  refine ro_S (n := 3) X hK (c_X11_in) gX11_amountAt_X11_in rfl (by decide +kernel) ⟨rfl, rfl⟩ ⟨Nat.le_of_ble_eq_true rfl, Nat.le_of_ble_eq_true rfl⟩ (hP.sub [] rfl) rfl hl.1 rfl (Nat.le_of_ble_eq_true rfl) dX11_amountAt_194 ⟨Nat.zero_le _, Nat.zero_le _⟩ ?_
                                  refine lv_if_eq (tgt := 223) hx hb dX11_amountAt_197 (by decide) (fun c_197 => ?_) (fun c_197 => ?_)
                                  · replace c_197 := bI_0.mp c_197
                                    refine lv_iconst (v := 0) hx hb dX11_amountAt_223 (by decide) ?_
                                    refine lv_istore (lv' := [(5, _), (7, _), (6, _), (0, _), (1, _), (2, _), (3, _), (4, _)]) hx hb dX11_amountAt_224 hl (by decide) rfl (fun ls hl => ?_)
                                    have hs : sumA rest part (nI (k - i)) (wz j 3) = (false, rest, part, nI (k - i)) := by rw [sumA_in hne hrest]; simp [c_173b, eq_true c_106, c_116, eq_true c_132, c_143, c_147, c_169, c_173, eq_true c_182, c_186, c_197]
                                    refine lv_iload hx hb dX11_amountAt_226 (lv_at hl 7 rfl) ?_
                                    refine lv_iload hx hb dX11_amountAt_228 (lv_at hl 0 rfl) ?_
                                    refine lv_if_eq (tgt := 237) hx hb dX11_amountAt_230 (by decide) (fun _ => ?_) (fun c_230 => absurd c_230 (by decide))
                                    refine lv_iconst (v := 0) hx hb dX11_amountAt_237 (by decide) ?_
                                    refine lv_iadd hx hb dX11_amountAt_238 ?_
                                    refine lv_istore (lv' := [(4, _), (5, _), (7, _), (6, _), (0, _), (1, _), (2, _), (3, _)]) hx hb dX11_amountAt_239 hl (by decide) rfl (fun ls hl => ?_)
                                    refine lv_goto (tgt := 59) hx hb dX11_amountAt_241 (by decide) ?_
                                    rw [Int32.add_zero] at hl
                                    exact ih k false rest part (by rw [if_neg (by decide)]; rw [if_pos rfl] at hm; omega) (by omega) (by omega) hrest (by rw [← hr, if_pos rfl, smF_no hlt etw hnk (by rw [hs]), hs]; rfl) _ _ hP hD hS _ (lv_sub hl [4, 5, 6, 7, 0, 1] rfl)
                                  · replace c_197 := bI_n0.mp c_197
                                    refine lv_iload hx hb dX11_amountAt_200 (lv_at hl 0 rfl) ?_
                                    refine lv_bipush (v := 20) hx hb dX11_amountAt_202 (by decide) ?_
                                    refine lv_icmp_lt (tgt := 223) hx hb dX11_amountAt_204 (by decide) (fun c_204 => ?_) (fun c_204 => ?_)
                                    · refine lv_iconst (v := 0) hx hb dX11_amountAt_223 (by decide) ?_
                                      refine lv_istore (lv' := [(5, _), (7, _), (6, _), (0, _), (1, _), (2, _), (3, _), (4, _)]) hx hb dX11_amountAt_224 hl (by decide) rfl (fun ls hl => ?_)
                                      have hs : sumA rest part (nI (k - i)) (wz j 3) = (false, rest, part, nI (k - i)) := by rw [sumA_in hne hrest]; simp [c_173b, eq_true c_106, c_116, eq_true c_132, c_143, c_147, c_169, c_173, eq_true c_182, c_186, c_197, c_204]
                                      refine lv_iload hx hb dX11_amountAt_226 (lv_at hl 7 rfl) ?_
                                      refine lv_iload hx hb dX11_amountAt_228 (lv_at hl 0 rfl) ?_
                                      refine lv_if_eq (tgt := 237) hx hb dX11_amountAt_230 (by decide) (fun _ => ?_) (fun c_230 => absurd c_230 (by decide))
                                      refine lv_iconst (v := 0) hx hb dX11_amountAt_237 (by decide) ?_
                                      refine lv_iadd hx hb dX11_amountAt_238 ?_
                                      refine lv_istore (lv' := [(4, _), (5, _), (7, _), (6, _), (0, _), (1, _), (2, _), (3, _)]) hx hb dX11_amountAt_239 hl (by decide) rfl (fun ls hl => ?_)
                                      refine lv_goto (tgt := 59) hx hb dX11_amountAt_241 (by decide) ?_
                                      rw [Int32.add_zero] at hl
                                      exact ih k false rest part (by rw [if_neg (by decide)]; rw [if_pos rfl] at hm; omega) (by omega) (by omega) hrest (by rw [← hr, if_pos rfl, smF_no hlt etw hnk (by rw [hs]), hs]; rfl) _ _ hP hD hS _ (lv_sub hl [4, 5, 6, 7, 0, 1] rfl)
                                    · refine lv_iload hx hb dX11_amountAt_207 (lv_at hl 0 rfl) ?_
                                      refine lv_bipush (v := 10) hx hb dX11_amountAt_209 (by decide) ?_
                                      refine lv_irem hx hb dX11_amountAt_211 (by decide) ?_
                                      refine lv_if_ne (tgt := 223) hx hb dX11_amountAt_212 (by decide) (fun c_212 => ?_) (fun c_212 => ?_)
                                      · refine lv_iconst (v := 0) hx hb dX11_amountAt_223 (by decide) ?_
                                        refine lv_istore (lv' := [(5, _), (7, _), (6, _), (0, _), (1, _), (2, _), (3, _), (4, _)]) hx hb dX11_amountAt_224 hl (by decide) rfl (fun ls hl => ?_)
                                        have hs : sumA rest part (nI (k - i)) (wz j 3) = (false, rest, part, nI (k - i)) := by rw [sumA_in hne hrest]; simp [c_173b, eq_true c_106, c_116, eq_true c_132, c_143, c_147, c_169, c_173, eq_true c_182, c_186, c_197, c_204, c_212]
                                        refine lv_iload hx hb dX11_amountAt_226 (lv_at hl 7 rfl) ?_
                                        refine lv_iload hx hb dX11_amountAt_228 (lv_at hl 0 rfl) ?_
                                        refine lv_if_eq (tgt := 237) hx hb dX11_amountAt_230 (by decide) (fun _ => ?_) (fun c_230 => absurd c_230 (by decide))
                                        refine lv_iconst (v := 0) hx hb dX11_amountAt_237 (by decide) ?_
                                        refine lv_iadd hx hb dX11_amountAt_238 ?_
                                        refine lv_istore (lv' := [(4, _), (5, _), (7, _), (6, _), (0, _), (1, _), (2, _), (3, _)]) hx hb dX11_amountAt_239 hl (by decide) rfl (fun ls hl => ?_)
                                        refine lv_goto (tgt := 59) hx hb dX11_amountAt_241 (by decide) ?_
                                        rw [Int32.add_zero] at hl
                                        exact ih k false rest part (by rw [if_neg (by decide)]; rw [if_pos rfl] at hm; omega) (by omega) (by omega) hrest (by rw [← hr, if_pos rfl, smF_no hlt etw hnk (by rw [hs]), hs]; rfl) _ _ hP hD hS _ (lv_sub hl [4, 5, 6, 7, 0, 1] rfl)
                                      · refine lv_iload_n hx hb dX11_amountAt_215 rfl (lv_at hl 4 rfl) ?_
                                        refine lv_iload hx hb dX11_amountAt_216 (lv_at hl 1 rfl) ?_
                                        refine lv_iadd hx hb dX11_amountAt_218 ?_
                                        refine lv_istore_n (lv' := [(2, _), (7, _), (6, _), (0, _), (1, _), (3, _), (4, _), (5, _)]) hx hb dX11_amountAt_219 rfl hl (by decide) rfl (fun ls hl => ?_)
                                        refine lv_goto (tgt := 226) hx hb dX11_amountAt_220 (by decide) ?_
                                        have hs : sumA rest part (nI (k - i)) (wz j 3) = (true, rest, part + wz j 3, nI (k - i) + 1) := by rw [sumA_in hne hrest]; simp [c_173b, eq_true c_106, c_116, eq_true c_132, c_143, c_147, c_169, c_173, eq_true c_182, c_186, c_197, c_204, eq_true c_212]
                                        refine lv_iload hx hb dX11_amountAt_226 (lv_at hl 6 rfl) ?_
                                        refine lv_iload hx hb dX11_amountAt_228 (lv_at hl 7 rfl) ?_
                                        refine lv_if_eq (tgt := 237) hx hb dX11_amountAt_230 (by decide) (fun c_230 => absurd c_230 (by decide)) (fun _ => ?_)
                                        refine lv_iconst (v := 1) hx hb dX11_amountAt_233 (by decide) ?_
                                        refine lv_goto (tgt := 238) hx hb dX11_amountAt_234 (by decide) ?_
                                        refine lv_iadd hx hb dX11_amountAt_238 ?_
                                        refine lv_istore (lv' := [(4, _), (2, _), (7, _), (6, _), (0, _), (1, _), (3, _), (5, _)]) hx hb dX11_amountAt_239 hl (by decide) rfl (fun ls hl => ?_)
                                        refine lv_goto (tgt := 59) hx hb dX11_amountAt_241 (by decide) ?_
                                        rw [nI_1] at hl
                                        exact ih (k + 1) true rest (part + wz j 3) (by rw [if_pos rfl]; rw [if_pos rfl] at hm; omega) (by omega) (by omega) (hrest) (by rw [← hr, if_pos rfl, smF_go hlt etw hnk (by rw [hs]), hs, show k + 1 - i = k - i + 1 by omega, ← nI_1]; rfl) _ _ hP hD hS _ (lv_sub hl [4, 5, 1, 6, 0, 7] rfl)
                            · have c_173b : 0 < part := Int32.not_le.mp c_173
                              refine lv_iload hx hb dX11_amountAt_176 (lv_at hl 0 rfl) ?_
                              refine lv_if_eq (tgt := 215) hx hb dX11_amountAt_178 (by decide) (fun c_178 => ?_) (fun c_178 => ?_)
                              · refine lv_iload_n hx hb dX11_amountAt_215 rfl (lv_at hl 4 rfl) ?_
                                refine lv_iload hx hb dX11_amountAt_216 (lv_at hl 1 rfl) ?_
                                refine lv_iadd hx hb dX11_amountAt_218 ?_
                                refine lv_istore_n (lv' := [(2, _), (7, _), (6, _), (0, _), (1, _), (3, _), (4, _), (5, _)]) hx hb dX11_amountAt_219 rfl hl (by decide) rfl (fun ls hl => ?_)
                                refine lv_goto (tgt := 226) hx hb dX11_amountAt_220 (by decide) ?_
                                have hs : sumA rest part (nI (k - i)) (wz j 3) = (true, rest, part + wz j 3, nI (k - i) + 1) := by rw [sumA_in hne hrest]; simp [c_173b, eq_true c_106, c_116, eq_true c_132, c_143, c_147, c_169, c_173, eq_true c_178]
                                refine lv_iload hx hb dX11_amountAt_226 (lv_at hl 6 rfl) ?_
                                refine lv_iload hx hb dX11_amountAt_228 (lv_at hl 7 rfl) ?_
                                refine lv_if_eq (tgt := 237) hx hb dX11_amountAt_230 (by decide) (fun c_230 => absurd c_230 (by decide)) (fun _ => ?_)
                                refine lv_iconst (v := 1) hx hb dX11_amountAt_233 (by decide) ?_
                                refine lv_goto (tgt := 238) hx hb dX11_amountAt_234 (by decide) ?_
                                refine lv_iadd hx hb dX11_amountAt_238 ?_
                                refine lv_istore (lv' := [(4, _), (2, _), (7, _), (6, _), (0, _), (1, _), (3, _), (5, _)]) hx hb dX11_amountAt_239 hl (by decide) rfl (fun ls hl => ?_)
                                refine lv_goto (tgt := 59) hx hb dX11_amountAt_241 (by decide) ?_
                                rw [nI_1] at hl
                                exact ih (k + 1) true rest (part + wz j 3) (by rw [if_pos rfl]; rw [if_pos rfl] at hm; omega) (by omega) (by omega) (hrest) (by rw [← hr, if_pos rfl, smF_go hlt etw hnk (by rw [hs]), hs, show k + 1 - i = k - i + 1 by omega, ← nI_1]; rfl) _ _ hP hD hS _ (lv_sub hl [4, 5, 1, 6, 0, 7] rfl)
                              · refine lv_iload_n hx hb dX11_amountAt_181 rfl (lv_at hl 4 rfl) ?_
                                refine lv_if_ne (tgt := 189) hx hb dX11_amountAt_182 (by decide) (fun c_182 => ?_) (fun c_182 => ?_)
                                · refine lv_iload hx hb dX11_amountAt_189 (lv_at hl 1 rfl) ?_
                                  refine lv_iconst (v := 1) hx hb dX11_amountAt_191 (by decide) ?_
                                  refine lv_bipush (v := 9) hx hb dX11_amountAt_192 (by decide) ?_
                                  refine ro_S (n := 3) X hK (c_X11_in) gX11_amountAt_X11_in rfl (by decide +kernel) ⟨rfl, rfl⟩ ⟨Nat.le_of_ble_eq_true rfl, Nat.le_of_ble_eq_true rfl⟩ (hP.sub [] rfl) rfl hl.1 rfl (Nat.le_of_ble_eq_true rfl) dX11_amountAt_194 ⟨Nat.zero_le _, Nat.zero_le _⟩ ?_
                                  refine lv_if_eq (tgt := 223) hx hb dX11_amountAt_197 (by decide) (fun c_197 => ?_) (fun c_197 => ?_)
                                  · replace c_197 := bI_0.mp c_197
                                    refine lv_iconst (v := 0) hx hb dX11_amountAt_223 (by decide) ?_
                                    refine lv_istore (lv' := [(5, _), (7, _), (6, _), (0, _), (1, _), (2, _), (3, _), (4, _)]) hx hb dX11_amountAt_224 hl (by decide) rfl (fun ls hl => ?_)
                                    have hs : sumA rest part (nI (k - i)) (wz j 3) = (false, rest, part, nI (k - i)) := by rw [sumA_in hne hrest]; simp [c_173b, eq_true c_106, c_116, eq_true c_132, c_143, c_147, c_169, c_173, c_178, c_182, c_197]
                                    refine lv_iload hx hb dX11_amountAt_226 (lv_at hl 7 rfl) ?_
                                    refine lv_iload hx hb dX11_amountAt_228 (lv_at hl 0 rfl) ?_
                                    refine lv_if_eq (tgt := 237) hx hb dX11_amountAt_230 (by decide) (fun _ => ?_) (fun c_230 => absurd c_230 (by decide))
                                    refine lv_iconst (v := 0) hx hb dX11_amountAt_237 (by decide) ?_
                                    refine lv_iadd hx hb dX11_amountAt_238 ?_
                                    refine lv_istore (lv' := [(4, _), (5, _), (7, _), (6, _), (0, _), (1, _), (2, _), (3, _)]) hx hb dX11_amountAt_239 hl (by decide) rfl (fun ls hl => ?_)
                                    refine lv_goto (tgt := 59) hx hb dX11_amountAt_241 (by decide) ?_
                                    rw [Int32.add_zero] at hl
                                    exact ih k false rest part (by rw [if_neg (by decide)]; rw [if_pos rfl] at hm; omega) (by omega) (by omega) hrest (by rw [← hr, if_pos rfl, smF_no hlt etw hnk (by rw [hs]), hs]; rfl) _ _ hP hD hS _ (lv_sub hl [4, 5, 6, 7, 0, 1] rfl)
                                  · replace c_197 := bI_n0.mp c_197
                                    refine lv_iload hx hb dX11_amountAt_200 (lv_at hl 0 rfl) ?_
                                    refine lv_bipush (v := 20) hx hb dX11_amountAt_202 (by decide) ?_
                                    refine lv_icmp_lt (tgt := 223) hx hb dX11_amountAt_204 (by decide) (fun c_204 => ?_) (fun c_204 => ?_)
                                    · refine lv_iconst (v := 0) hx hb dX11_amountAt_223 (by decide) ?_
                                      refine lv_istore (lv' := [(5, _), (7, _), (6, _), (0, _), (1, _), (2, _), (3, _), (4, _)]) hx hb dX11_amountAt_224 hl (by decide) rfl (fun ls hl => ?_)
                                      have hs : sumA rest part (nI (k - i)) (wz j 3) = (false, rest, part, nI (k - i)) := by rw [sumA_in hne hrest]; simp [c_173b, eq_true c_106, c_116, eq_true c_132, c_143, c_147, c_169, c_173, c_178, c_182, c_197, c_204]
                                      refine lv_iload hx hb dX11_amountAt_226 (lv_at hl 7 rfl) ?_
                                      refine lv_iload hx hb dX11_amountAt_228 (lv_at hl 0 rfl) ?_
                                      refine lv_if_eq (tgt := 237) hx hb dX11_amountAt_230 (by decide) (fun _ => ?_) (fun c_230 => absurd c_230 (by decide))
                                      refine lv_iconst (v := 0) hx hb dX11_amountAt_237 (by decide) ?_
                                      refine lv_iadd hx hb dX11_amountAt_238 ?_
                                      refine lv_istore (lv' := [(4, _), (5, _), (7, _), (6, _), (0, _), (1, _), (2, _), (3, _)]) hx hb dX11_amountAt_239 hl (by decide) rfl (fun ls hl => ?_)
                                      refine lv_goto (tgt := 59) hx hb dX11_amountAt_241 (by decide) ?_
                                      rw [Int32.add_zero] at hl
                                      exact ih k false rest part (by rw [if_neg (by decide)]; rw [if_pos rfl] at hm; omega) (by omega) (by omega) hrest (by rw [← hr, if_pos rfl, smF_no hlt etw hnk (by rw [hs]), hs]; rfl) _ _ hP hD hS _ (lv_sub hl [4, 5, 6, 7, 0, 1] rfl)
                                    · refine lv_iload hx hb dX11_amountAt_207 (lv_at hl 0 rfl) ?_
                                      refine lv_bipush (v := 10) hx hb dX11_amountAt_209 (by decide) ?_
                                      refine lv_irem hx hb dX11_amountAt_211 (by decide) ?_
                                      refine lv_if_ne (tgt := 223) hx hb dX11_amountAt_212 (by decide) (fun c_212 => ?_) (fun c_212 => ?_)
                                      · refine lv_iconst (v := 0) hx hb dX11_amountAt_223 (by decide) ?_
                                        refine lv_istore (lv' := [(5, _), (7, _), (6, _), (0, _), (1, _), (2, _), (3, _), (4, _)]) hx hb dX11_amountAt_224 hl (by decide) rfl (fun ls hl => ?_)
                                        have hs : sumA rest part (nI (k - i)) (wz j 3) = (false, rest, part, nI (k - i)) := by rw [sumA_in hne hrest]; simp [c_173b, eq_true c_106, c_116, eq_true c_132, c_143, c_147, c_169, c_173, c_178, c_182, c_197, c_204, c_212]
                                        refine lv_iload hx hb dX11_amountAt_226 (lv_at hl 7 rfl) ?_
                                        refine lv_iload hx hb dX11_amountAt_228 (lv_at hl 0 rfl) ?_
                                        refine lv_if_eq (tgt := 237) hx hb dX11_amountAt_230 (by decide) (fun _ => ?_) (fun c_230 => absurd c_230 (by decide))
                                        refine lv_iconst (v := 0) hx hb dX11_amountAt_237 (by decide) ?_
                                        refine lv_iadd hx hb dX11_amountAt_238 ?_
                                        refine lv_istore (lv' := [(4, _), (5, _), (7, _), (6, _), (0, _), (1, _), (2, _), (3, _)]) hx hb dX11_amountAt_239 hl (by decide) rfl (fun ls hl => ?_)
                                        refine lv_goto (tgt := 59) hx hb dX11_amountAt_241 (by decide) ?_
                                        rw [Int32.add_zero] at hl
                                        exact ih k false rest part (by rw [if_neg (by decide)]; rw [if_pos rfl] at hm; omega) (by omega) (by omega) hrest (by rw [← hr, if_pos rfl, smF_no hlt etw hnk (by rw [hs]), hs]; rfl) _ _ hP hD hS _ (lv_sub hl [4, 5, 6, 7, 0, 1] rfl)
                                      · refine lv_iload_n hx hb dX11_amountAt_215 rfl (lv_at hl 4 rfl) ?_
                                        refine lv_iload hx hb dX11_amountAt_216 (lv_at hl 1 rfl) ?_
                                        refine lv_iadd hx hb dX11_amountAt_218 ?_
                                        refine lv_istore_n (lv' := [(2, _), (7, _), (6, _), (0, _), (1, _), (3, _), (4, _), (5, _)]) hx hb dX11_amountAt_219 rfl hl (by decide) rfl (fun ls hl => ?_)
                                        refine lv_goto (tgt := 226) hx hb dX11_amountAt_220 (by decide) ?_
                                        have hs : sumA rest part (nI (k - i)) (wz j 3) = (true, rest, part + wz j 3, nI (k - i) + 1) := by rw [sumA_in hne hrest]; simp [c_173b, eq_true c_106, c_116, eq_true c_132, c_143, c_147, c_169, c_173, c_178, c_182, c_197, c_204, eq_true c_212]
                                        refine lv_iload hx hb dX11_amountAt_226 (lv_at hl 6 rfl) ?_
                                        refine lv_iload hx hb dX11_amountAt_228 (lv_at hl 7 rfl) ?_
                                        refine lv_if_eq (tgt := 237) hx hb dX11_amountAt_230 (by decide) (fun c_230 => absurd c_230 (by decide)) (fun _ => ?_)
                                        refine lv_iconst (v := 1) hx hb dX11_amountAt_233 (by decide) ?_
                                        refine lv_goto (tgt := 238) hx hb dX11_amountAt_234 (by decide) ?_
                                        refine lv_iadd hx hb dX11_amountAt_238 ?_
                                        refine lv_istore (lv' := [(4, _), (2, _), (7, _), (6, _), (0, _), (1, _), (3, _), (5, _)]) hx hb dX11_amountAt_239 hl (by decide) rfl (fun ls hl => ?_)
                                        refine lv_goto (tgt := 59) hx hb dX11_amountAt_241 (by decide) ?_
                                        rw [nI_1] at hl
                                        exact ih (k + 1) true rest (part + wz j 3) (by rw [if_pos rfl]; rw [if_pos rfl] at hm; omega) (by omega) (by omega) (hrest) (by rw [← hr, if_pos rfl, smF_go hlt etw hnk (by rw [hs]), hs, show k + 1 - i = k - i + 1 by omega, ← nI_1]; rfl) _ _ hP hD hS _ (lv_sub hl [4, 5, 1, 6, 0, 7] rfl)
                                · exact absurd c_173b (by rw [c_182]; decide)
                        · refine lv_sipush (v := 1000) hx hb dX11_amountAt_150 (by decide) ?_
                          refine lv_iload_n hx hb dX11_amountAt_153 rfl (lv_at hl 4 rfl) ?_
                          refine lv_imul hx hb dX11_amountAt_154 ?_
                          refine lv_istore_n (lv' := [(3, _), (7, _), (6, _), (0, _), (1, _), (2, _), (4, _), (5, _)]) hx hb dX11_amountAt_155 rfl hl (by decide) rfl (fun ls hl => ?_)
                          refine lv_iconst (v := 0) hx hb dX11_amountAt_156 (by decide) ?_
                          refine lv_istore_n (lv' := [(2, _), (3, _), (7, _), (6, _), (0, _), (1, _), (4, _), (5, _)]) hx hb dX11_amountAt_157 rfl hl (by decide) rfl (fun ls hl => ?_)
                          refine lv_goto (tgt := 226) hx hb dX11_amountAt_158 (by decide) ?_
                          have hs : sumA rest part (nI (k - i)) (wz j 3) = (true, 1000 * part, 0, nI (k - i) + 1) := by rw [sumA_in hne hrest]; simp [eq_true c_106, c_116, eq_true c_132, c_143, eq_true c_147]
                          refine lv_iload hx hb dX11_amountAt_226 (lv_at hl 6 rfl) ?_
                          refine lv_iload hx hb dX11_amountAt_228 (lv_at hl 7 rfl) ?_
                          refine lv_if_eq (tgt := 237) hx hb dX11_amountAt_230 (by decide) (fun c_230 => absurd c_230 (by decide)) (fun _ => ?_)
                          refine lv_iconst (v := 1) hx hb dX11_amountAt_233 (by decide) ?_
                          refine lv_goto (tgt := 238) hx hb dX11_amountAt_234 (by decide) ?_
                          refine lv_iadd hx hb dX11_amountAt_238 ?_
                          refine lv_istore (lv' := [(4, _), (2, _), (3, _), (7, _), (6, _), (0, _), (1, _), (5, _)]) hx hb dX11_amountAt_239 hl (by decide) rfl (fun ls hl => ?_)
                          refine lv_goto (tgt := 59) hx hb dX11_amountAt_241 (by decide) ?_
                          rw [nI_1] at hl
                          exact ih (k + 1) true (1000 * part) 0 (by rw [if_pos rfl]; rw [if_pos rfl] at hm; omega) (by omega) (by omega) (h1000 c_143) (by rw [← hr, if_pos rfl, smF_go hlt etw hnk (by rw [hs]), hs, show k + 1 - i = k - i + 1 by omega, ← nI_1]; rfl) _ _ hP hD hS _ (lv_sub hl [5, 6, 1, 2, 0, 7] rfl)
                  · replace c_116 := bI_n0.mp c_116
                    refine lv_bipush (v := 100) hx hb dX11_amountAt_119 (by decide) ?_
                    refine lv_iload_n hx hb dX11_amountAt_121 rfl (lv_at hl 4 rfl) ?_
                    refine lv_imul hx hb dX11_amountAt_122 ?_
                    refine lv_istore_n (lv' := [(2, _), (7, _), (6, _), (0, _), (1, _), (3, _), (4, _), (5, _)]) hx hb dX11_amountAt_123 rfl hl (by decide) rfl (fun ls hl => ?_)
                    refine lv_goto (tgt := 226) hx hb dX11_amountAt_124 (by decide) ?_
                    have hs : sumA rest part (nI (k - i)) (wz j 3) = (true, rest, 100 * part, nI (k - i) + 1) := by rw [sumA_in hne hrest]; simp [eq_true c_106, c_116]
                    refine lv_iload hx hb dX11_amountAt_226 (lv_at hl 6 rfl) ?_
                    refine lv_iload hx hb dX11_amountAt_228 (lv_at hl 7 rfl) ?_
                    refine lv_if_eq (tgt := 237) hx hb dX11_amountAt_230 (by decide) (fun c_230 => absurd c_230 (by decide)) (fun _ => ?_)
                    refine lv_iconst (v := 1) hx hb dX11_amountAt_233 (by decide) ?_
                    refine lv_goto (tgt := 238) hx hb dX11_amountAt_234 (by decide) ?_
                    refine lv_iadd hx hb dX11_amountAt_238 ?_
                    refine lv_istore (lv' := [(4, _), (2, _), (7, _), (6, _), (0, _), (1, _), (3, _), (5, _)]) hx hb dX11_amountAt_239 hl (by decide) rfl (fun ls hl => ?_)
                    refine lv_goto (tgt := 59) hx hb dX11_amountAt_241 (by decide) ?_
                    rw [nI_1] at hl
                    exact ih (k + 1) true rest (100 * part) (by rw [if_pos rfl]; rw [if_pos rfl] at hm; omega) (by omega) (by omega) (hrest) (by rw [← hr, if_pos rfl, smF_go hlt etw hnk (by rw [hs]), hs, show k + 1 - i = k - i + 1 by omega, ← nI_1]; rfl) _ _ hP hD hS _ (lv_sub hl [4, 5, 1, 6, 0, 7] rfl)
      exact loop_59 (tn + 2) (i + 1) true 0 (wz j0 3) (by rw [if_pos rfl]; omega) (by omega) (by omega) (by decide) (by rw [if_pos rfl, smF_go hi etw0 hnk0 rfl, show i + 1 - i = 1 by omega]; rfl) _ _ hP hD hS ls (lv_sub hl [4, 5, 3, 2, 1, 0] rfl)
    · replace c_32 := bI_0.mp c_32
      have ht : smA T tn nw wz i = (0, 0, 0) := by rw [smA, if_neg c_12, nw_none hi c_32]
      refine lv_iconst (v := 0) hx hb dX11_amountAt_35 (by decide) ?_
      exact mu_iret X hP hS (by rw [ht]) (by rw [ht]; simp) dX11_amountAt_36
  · have ht : smA T tn nw wz i = (0, T 4 i, 1) := by rw [smA, if_pos c_12]
    refine lv_aload_n hx hb dX11_amountAt_15 rfl (lv_at hl 0 rfl) ?_
    refine lv_aload_n hx hb dX11_amountAt_16 rfl (lv_at hl 0 rfl) ?_
    refine va_get (D := D) (ci := 11) (C := RX11) (T := TX11) (N := 37) hx hb hts in_X11 hown hK hP 0 rfl rfl 21 (by decide) fl_55 (fun _ h9 => h9) rfl dX11_amountAt_17 ?_
    refine lv_iload_n hx hb dX11_amountAt_20 rfl (lv_at hl 1 rfl) ?_
    refine ald_n hx hb hK hP 4 0 rfl rfl (show i < 24 by omega) (by first | decide | omega) dX11_amountAt_21 ?_
    refine topi_eq (hrt i hi).2.2.2.1 ?_
    refine va_put (D := D) (ci := 11) (ty := .int) (C := RX11) (T := TX11) (N := 37) hx hb hts in_X11 tyX11 tyX11_ok nmX11 hown hK hP hD hS 0 rfl rfl 35 (by decide) fl_176 (fun _ h9 => h9) rfl (by decide +kernel) rfl rfl (Nat.le_of_ble_eq_true rfl) dX11_amountAt_22 (fun H locs hP hD hS => ?_)
    have hP : va_P D vwCl [(m, .inr (11, [_, .ref (a 1), .ref (a 2), _, _, _, .ref (a 6), .ref (a 7), .ref (a 8), .ref (a 9), .ref (a 10), .ref (a 11), .ref (a 12), .ref (a 13), .ref (a 14), .ref (a 15), _, _, .ref (a 18), .ref (a 19), .ref (a 20), .ref (a 21), .ref (a 22), .ref (a 23), .ref (a 24), .ref (a 25), _, _, .ref (a 28), _, _, .ref (a 31), .ref (a 32), .ref (a 33), _, _, _])), ((a 9), .inl (cI, 40, .inl _)), ((a 10), .inl (cI, 40, .inl _)), ((a 18), .inl (cI, 24, .inl _)), ((a 21), .inl (cI, 24, .inl _))] H := hP
    have hD : va_D A [(m, .inr (11, [_, .ref (a 1), .ref (a 2), _, _, _, .ref (a 6), .ref (a 7), .ref (a 8), .ref (a 9), .ref (a 10), .ref (a 11), .ref (a 12), .ref (a 13), .ref (a 14), .ref (a 15), _, _, .ref (a 18), .ref (a 19), .ref (a 20), .ref (a 21), .ref (a 22), .ref (a 23), .ref (a 24), .ref (a 25), _, _, .ref (a 28), _, _, .ref (a 31), .ref (a 32), .ref (a 33), _, _, _])), ((a 9), .inl (cI, 40, .inl _)), ((a 10), .inl (cI, 40, .inl _)), ((a 18), .inl (cI, 24, .inl _)), ((a 21), .inl (cI, 24, .inl _))] := hD
    refine lv_iconst (v := 1) hx hb dX11_amountAt_25 (by decide) ?_
    exact mu_iret X hP hS (by rw [ht]) (by rw [ht]; simp) dX11_amountAt_26

set_option maxHeartbeats 1000000 in
set_option maxRecDepth 100000 in
theorem c_X11_amount {l : Launch} {D : va_G} {cI cJ cW : ClassId} {sz : Nat} {m : Nat} {a : Nat → Nat} {ct dn nw nj n tn tc mm : Nat} {τ : TS} {fu am pb : Int32} {F : Nat → Nat → Int32} {T : Nat → Nat → Int32} {xn : Nat} {wz : Nat → Nat → Int32} {wn : Nat → Nat} {wt : Nat → Nat → Int32} {y : Int32} (htn : tn ≤ 24) (hnw : nw ≤ 40) (hrt : RT F T tn nw xn) (hrw : RW F nw wz wn wt) : MU l yX11_amount wsX11_amount { frames := 3, cells := 0, slots := 0, locals := 70 } D (ty3 cI cJ cW) [.ref m, .int y] [(m, .inr (11, [.int (nI ct), .ref (a 1), .ref (a 2), .int (nI dn), .int (nI nw), .int (nI nj), .ref (a 6), .ref (a 7), .ref (a 8), .ref (a 9), .ref (a 10), .ref (a 11), .ref (a 12), .ref (a 13), .ref (a 14), .ref (a 15), .int (nI n), .int (nI tn), .ref (a 18), .ref (a 19), .ref (a 20), .ref (a 21), .ref (a 22), .ref (a 23), .ref (a 24), .ref (a 25), .int (nI τ.1), .int (τ.2.1), .ref (a 28), .int (nI tc), .int (nI mm), .ref (a 31), .ref (a 32), .ref (a 33), .int (fu), .int (am), .int (pb)])), ((a 9), .inl (cI, 40, .inl (F 9))), ((a 10), .inl (cI, 40, .inl (F 10))), ((a 18), .inl (cI, 24, .inl (F 18))), ((a 21), .inl (cI, 24, .inl (F 21)))] sz (some (.int (aAmount T tn nw wz y))) [(m, .inr (11, [.int (nI ct), .ref (a 1), .ref (a 2), .int (nI dn), .int (nI nw), .int (nI nj), .ref (a 6), .ref (a 7), .ref (a 8), .ref (a 9), .ref (a 10), .ref (a 11), .ref (a 12), .ref (a 13), .ref (a 14), .ref (a 15), .int (nI n), .int (nI tn), .ref (a 18), .ref (a 19), .ref (a 20), .ref (a 21), .ref (a 22), .ref (a 23), .ref (a 24), .ref (a 25), .int (nI τ.1), .int (τ.2.1), .ref (a 28), .int (nI tc), .int (nI mm), .ref (a 31), .ref (a 32), .ref (a 33), .int (fu), .int ((match ixO tn y with | none => am | some i => (smA T tn nw wz i).1 + (smA T tn nw wz i).2.1)), .int (pb)])), ((a 9), .inl (cI, 40, .inl (F 9))), ((a 10), .inl (cI, 40, .inl (F 10))), ((a 18), .inl (cI, 24, .inl (F 18))), ((a 21), .inl (cI, 24, .inl (F 21)))] := by
  refine mu_of (cc := cX11_amount) (maxL := 2) (ret := (some .int)) (by decide) rfl (Nat.le_of_ble_eq_true rfl) ?_
  intro pr en ss mi below meth cd X hK A hA hP hD hS ls hl
  obtain ⟨hx, hb, hml, hown, hts, hr, hlocks⟩ := id X
  have fl_176 := hts (.fieldLink RX11 176 "WordTablesModel" "amountIs" "I") (by decide +kernel)
  have in_X11 : ∀ w ∈ wsX110, w ∈ wsX11_amount := by decide +kernel
  have hl : lv_has ls 2 [(0, .ref m), (1, .int y)] := hl
  refine lv_aload_n hx hb dX11_amount_0 rfl (lv_at hl 0 rfl) ?_
  refine lv_iload_n hx hb dX11_amount_1 rfl (lv_at hl 1 rfl) ?_
  refine ro_V (n := 1) X hK (c_X11_isToken htn) gX11_amount_X11_isToken rfl (by decide +kernel) ⟨rfl, rfl⟩ ⟨Nat.le_of_ble_eq_true rfl, Nat.le_of_ble_eq_true rfl⟩ (hP.sub [0] rfl) (va_recv hK hP (ci := 11) (q0 := 0) rfl rfl) rfl hl.1 rfl (Nat.le_of_ble_eq_true rfl) dX11_amount_2 ⟨Nat.zero_le _, Nat.zero_le _⟩ ?_
  refine lv_if_ne (tgt := 11) hx hb dX11_amount_5 (by decide) (fun c_5 => ?_) (fun c_5 => ?_)
  · replace c_5 := bI_n0.mp c_5
    obtain ⟨i, hi, rfl⟩ := is_ix c_5 (show tn < 2 ^ 31 by omega)
    refine lv_aload_n hx hb dX11_amount_11 rfl (lv_at hl 0 rfl) ?_
    refine lv_iload_n hx hb dX11_amount_12 rfl (lv_at hl 1 rfl) ?_
    refine mu_V (n := 1) X hK (c_X11_amountAt (T := T) htn hnw hrt hrw hi) gX11_amount_X11_amountAt rfl (by decide +kernel) ⟨rfl, rfl⟩ ⟨Nat.le_of_ble_eq_true rfl, Nat.le_of_ble_eq_true rfl⟩ [0, 1, 2, 3, 4] rfl rfl rfl rfl hA hP hD hS (va_recv hK hP (ci := 11) (q0 := 0) rfl rfl) rfl hl.1 rfl (Nat.le_of_ble_eq_true rfl) dX11_amount_13 ⟨Nat.zero_le _, Nat.zero_le _⟩ (fun H locs hP hD hS => ?_)
    have hP : va_P D vwCl [(m, .inr (11, [_, .ref (a 1), .ref (a 2), _, _, _, .ref (a 6), .ref (a 7), .ref (a 8), .ref (a 9), .ref (a 10), .ref (a 11), .ref (a 12), .ref (a 13), .ref (a 14), .ref (a 15), _, _, .ref (a 18), .ref (a 19), .ref (a 20), .ref (a 21), .ref (a 22), .ref (a 23), .ref (a 24), .ref (a 25), _, _, .ref (a 28), _, _, .ref (a 31), .ref (a 32), .ref (a 33), _, _, _])), ((a 9), .inl (cI, 40, .inl _)), ((a 10), .inl (cI, 40, .inl _)), ((a 18), .inl (cI, 24, .inl _)), ((a 21), .inl (cI, 24, .inl _))] H := hP
    have hD : va_D A [(m, .inr (11, [_, .ref (a 1), .ref (a 2), _, _, _, .ref (a 6), .ref (a 7), .ref (a 8), .ref (a 9), .ref (a 10), .ref (a 11), .ref (a 12), .ref (a 13), .ref (a 14), .ref (a 15), _, _, .ref (a 18), .ref (a 19), .ref (a 20), .ref (a 21), .ref (a 22), .ref (a 23), .ref (a 24), .ref (a 25), _, _, .ref (a 28), _, _, .ref (a 31), .ref (a 32), .ref (a 33), _, _, _])), ((a 9), .inl (cI, 40, .inl _)), ((a 10), .inl (cI, 40, .inl _)), ((a 18), .inl (cI, 24, .inl _)), ((a 21), .inl (cI, 24, .inl _))] := hD
    refine lv_if_ne (tgt := 24) hx hb dX11_amount_16 (by decide) (fun c_16 => ?_) (fun c_16 => ?_)
    · refine lv_aload_n hx hb dX11_amount_24 rfl (lv_at hl 0 rfl) ?_
      refine va_get (D := D) (ci := 11) (C := RX11) (T := TX11) (N := 37) hx hb hts in_X11 hown hK hP 0 rfl rfl 35 (by decide) fl_176 (fun _ h9 => h9) rfl dX11_amount_25 ?_
      exact mu_iret X hP hS (by rw [aAmount, ixO_nI hi (by omega)]; simp [c_16]) (by rw [ixO_nI hi (by omega)]) dX11_amount_28
    · refine lv_bipush (v := -4) hx hb dX11_amount_19 (by decide) ?_
      refine lv_goto (tgt := 28) hx hb dX11_amount_21 (by decide) ?_
      exact mu_iret X hP hS (by rw [aAmount, ixO_nI hi (by omega)]; simp [c_16]) (by rw [ixO_nI hi (by omega)]) dX11_amount_28
  · replace c_5 := bI_0.mp c_5
    refine lv_bipush (v := -2) hx hb dX11_amount_8 (by decide) ?_
    exact mu_iret X hP hS (by rw [aAmount, no_ix c_5]) (by rw [no_ix c_5]) dX11_amount_10

set_option maxHeartbeats 1000000 in
set_option maxRecDepth 100000 in
theorem c_X11_amountLength {l : Launch} {D : va_G} {cI cJ cW : ClassId} {sz : Nat} {m : Nat} {a : Nat → Nat} {ct dn nw nj n tn tc mm : Nat} {τ : TS} {fu am pb : Int32} {F : Nat → Nat → Int32} {T : Nat → Nat → Int32} {xn : Nat} {wz : Nat → Nat → Int32} {wn : Nat → Nat} {wt : Nat → Nat → Int32} {y : Int32} (htn : tn ≤ 24) (hnw : nw ≤ 40) (hrt : RT F T tn nw xn) (hrw : RW F nw wz wn wt) : MU l yX11_amountLength wsX11_amountLength { frames := 3, cells := 0, slots := 0, locals := 70 } D (ty3 cI cJ cW) [.ref m, .int y] [(m, .inr (11, [.int (nI ct), .ref (a 1), .ref (a 2), .int (nI dn), .int (nI nw), .int (nI nj), .ref (a 6), .ref (a 7), .ref (a 8), .ref (a 9), .ref (a 10), .ref (a 11), .ref (a 12), .ref (a 13), .ref (a 14), .ref (a 15), .int (nI n), .int (nI tn), .ref (a 18), .ref (a 19), .ref (a 20), .ref (a 21), .ref (a 22), .ref (a 23), .ref (a 24), .ref (a 25), .int (nI τ.1), .int (τ.2.1), .ref (a 28), .int (nI tc), .int (nI mm), .ref (a 31), .ref (a 32), .ref (a 33), .int (fu), .int (am), .int (pb)])), ((a 9), .inl (cI, 40, .inl (F 9))), ((a 10), .inl (cI, 40, .inl (F 10))), ((a 18), .inl (cI, 24, .inl (F 18))), ((a 21), .inl (cI, 24, .inl (F 21)))] sz (some (.int (aAmLen T tn nw wz y))) [(m, .inr (11, [.int (nI ct), .ref (a 1), .ref (a 2), .int (nI dn), .int (nI nw), .int (nI nj), .ref (a 6), .ref (a 7), .ref (a 8), .ref (a 9), .ref (a 10), .ref (a 11), .ref (a 12), .ref (a 13), .ref (a 14), .ref (a 15), .int (nI n), .int (nI tn), .ref (a 18), .ref (a 19), .ref (a 20), .ref (a 21), .ref (a 22), .ref (a 23), .ref (a 24), .ref (a 25), .int (nI τ.1), .int (τ.2.1), .ref (a 28), .int (nI tc), .int (nI mm), .ref (a 31), .ref (a 32), .ref (a 33), .int (fu), .int ((match ixO tn y with | none => am | some i => (smA T tn nw wz i).1 + (smA T tn nw wz i).2.1)), .int (pb)])), ((a 9), .inl (cI, 40, .inl (F 9))), ((a 10), .inl (cI, 40, .inl (F 10))), ((a 18), .inl (cI, 24, .inl (F 18))), ((a 21), .inl (cI, 24, .inl (F 21)))] := by
  refine mu_of (cc := cX11_amountLength) (maxL := 2) (ret := (some .int)) (by decide) rfl (Nat.le_of_ble_eq_true rfl) ?_
  intro pr en ss mi below meth cd X hK A hA hP hD hS ls hl
  obtain ⟨hx, hb, hml, hown, hts, hr, hlocks⟩ := id X
  have hl : lv_has ls 2 [(0, .ref m), (1, .int y)] := hl
  refine lv_aload_n hx hb dX11_amountLength_0 rfl (lv_at hl 0 rfl) ?_
  refine lv_iload_n hx hb dX11_amountLength_1 rfl (lv_at hl 1 rfl) ?_
  refine ro_V (n := 1) X hK (c_X11_isToken htn) gX11_amountLength_X11_isToken rfl (by decide +kernel) ⟨rfl, rfl⟩ ⟨Nat.le_of_ble_eq_true rfl, Nat.le_of_ble_eq_true rfl⟩ (hP.sub [0] rfl) (va_recv hK hP (ci := 11) (q0 := 0) rfl rfl) rfl hl.1 rfl (Nat.le_of_ble_eq_true rfl) dX11_amountLength_2 ⟨Nat.zero_le _, Nat.zero_le _⟩ ?_
  refine lv_if_eq (tgt := 16) hx hb dX11_amountLength_5 (by decide) (fun c_5 => ?_) (fun c_5 => ?_)
  · replace c_5 := bI_0.mp c_5
    refine lv_bipush (v := -2) hx hb dX11_amountLength_16 (by decide) ?_
    exact mu_iret X hP hS (by rw [aAmLen, no_ix c_5]) (by rw [no_ix c_5]) dX11_amountLength_18
  · replace c_5 := bI_n0.mp c_5
    obtain ⟨i, hi, rfl⟩ := is_ix c_5 (show tn < 2 ^ 31 by omega)
    refine lv_aload_n hx hb dX11_amountLength_8 rfl (lv_at hl 0 rfl) ?_
    refine lv_iload_n hx hb dX11_amountLength_9 rfl (lv_at hl 1 rfl) ?_
    refine mu_V (n := 1) X hK (c_X11_amountAt (T := T) htn hnw hrt hrw hi) gX11_amountLength_X11_amountAt rfl (by decide +kernel) ⟨rfl, rfl⟩ ⟨Nat.le_of_ble_eq_true rfl, Nat.le_of_ble_eq_true rfl⟩ [0, 1, 2, 3, 4] rfl rfl rfl rfl hA hP hD hS (va_recv hK hP (ci := 11) (q0 := 0) rfl rfl) rfl hl.1 rfl (Nat.le_of_ble_eq_true rfl) dX11_amountLength_10 ⟨Nat.zero_le _, Nat.zero_le _⟩ (fun H locs hP hD hS => ?_)
    have hP : va_P D vwCl [(m, .inr (11, [_, .ref (a 1), .ref (a 2), _, _, _, .ref (a 6), .ref (a 7), .ref (a 8), .ref (a 9), .ref (a 10), .ref (a 11), .ref (a 12), .ref (a 13), .ref (a 14), .ref (a 15), _, _, .ref (a 18), .ref (a 19), .ref (a 20), .ref (a 21), .ref (a 22), .ref (a 23), .ref (a 24), .ref (a 25), _, _, .ref (a 28), _, _, .ref (a 31), .ref (a 32), .ref (a 33), _, _, _])), ((a 9), .inl (cI, 40, .inl _)), ((a 10), .inl (cI, 40, .inl _)), ((a 18), .inl (cI, 24, .inl _)), ((a 21), .inl (cI, 24, .inl _))] H := hP
    have hD : va_D A [(m, .inr (11, [_, .ref (a 1), .ref (a 2), _, _, _, .ref (a 6), .ref (a 7), .ref (a 8), .ref (a 9), .ref (a 10), .ref (a 11), .ref (a 12), .ref (a 13), .ref (a 14), .ref (a 15), _, _, .ref (a 18), .ref (a 19), .ref (a 20), .ref (a 21), .ref (a 22), .ref (a 23), .ref (a 24), .ref (a 25), _, _, .ref (a 28), _, _, .ref (a 31), .ref (a 32), .ref (a 33), _, _, _])), ((a 9), .inl (cI, 40, .inl _)), ((a 10), .inl (cI, 40, .inl _)), ((a 18), .inl (cI, 24, .inl _)), ((a 21), .inl (cI, 24, .inl _))] := hD
    refine lv_goto (tgt := 18) hx hb dX11_amountLength_13 (by decide) ?_
    exact mu_iret X hP hS (by rw [aAmLen, ixO_nI hi (by omega)]) (by rw [ixO_nI hi (by omega)]) dX11_amountLength_18

set_option maxHeartbeats 1000000 in
set_option maxRecDepth 100000 in
theorem c_X11_meantBy {l : Launch} {D : va_G} {cI cJ cW : ClassId} {m : Nat} {a : Nat → Nat} {ct dn nw nj n tn tc mm : Nat} {τ : TS} {am pb : Int32} {F : Nat → Nat → Int32} {T : Nat → Nat → Int32} {xn : Nat} {wz : Nat → Nat → Int32} {wn : Nat → Nat} {wt : Nat → Nat → Int32} {fq : Nat} {mt mw mf : Nat → Int32} {i : Nat} (htn : tn ≤ 24) (hnw : nw ≤ 40) (hrt : RT F T tn nw xn) (hrw : RW F nw wz wn wt) (hmm : mm ≤ 60) (hfq : fq < 256) (hrm : RM mw mf mm) (hi : i < tn) : RO l yX11_meantBy wsX11_meantBy { frames := 1, cells := 0, slots := 0, locals := 22 } D (ty3 cI cJ cW) [.ref m, .int (nI i)] [(m, .inr (11, [.int (nI ct), .ref (a 1), .ref (a 2), .int (nI dn), .int (nI nw), .int (nI nj), .ref (a 6), .ref (a 7), .ref (a 8), .ref (a 9), .ref (a 10), .ref (a 11), .ref (a 12), .ref (a 13), .ref (a 14), .ref (a 15), .int (nI n), .int (nI tn), .ref (a 18), .ref (a 19), .ref (a 20), .ref (a 21), .ref (a 22), .ref (a 23), .ref (a 24), .ref (a 25), .int (nI τ.1), .int (τ.2.1), .ref (a 28), .int (nI tc), .int (nI mm), .ref (a 31), .ref (a 32), .ref (a 33), .int (nI fq), .int (am), .int (pb)])), ((a 9), .inl (cI, 40, .inl (F 9))), ((a 11), .inl (cI, 40, .inl (F 11))), ((a 12), .inl (cI, 40, .inl (F 12))), ((a 18), .inl (cI, 24, .inl (F 18))), ((a 21), .inl (cI, 24, .inl (F 21))), ((a 31), .inl (cI, 60, .inl mt)), ((a 32), .inl (cI, 60, .inl mw)), ((a 33), .inl (cI, 60, .inl mf))] (.int (tmI T nw wz mt mw mf (nI fq) mm i)) := by
  refine ro_of (cc := cX11_meantBy) (maxL := 6) (ret := (some .int)) (by decide) rfl (Nat.le_of_ble_eq_true rfl) ?_
  intro pr en ss mi below meth cd X hP hK ls hl
  obtain ⟨hx, hb, hml, hown, hts, hr, hlocks⟩ := id X
  have fl_188 := hts (.fieldLink RX11 188 "WordTablesModel" "meanings" "I") (by decide +kernel)
  have fl_191 := hts (.fieldLink RX11 191 "WordTablesModel" "flags" "I") (by decide +kernel)
  have fl_31 := hts (.fieldLink RX11 31 "WordTablesModel" "pluralOf" "[I") (by decide +kernel)
  have fl_34 := hts (.fieldLink RX11 34 "WordTablesModel" "refers" "[I") (by decide +kernel)
  have fl_46 := hts (.fieldLink RX11 46 "WordTablesModel" "sort" "[I") (by decide +kernel)
  have fl_55 := hts (.fieldLink RX11 55 "WordTablesModel" "number" "[I") (by decide +kernel)
  have fl_73 := hts (.fieldLink RX11 73 "WordTablesModel" "meaningThing" "[I") (by decide +kernel)
  have fl_76 := hts (.fieldLink RX11 76 "WordTablesModel" "meaningWord" "[I") (by decide +kernel)
  have fl_79 := hts (.fieldLink RX11 79 "WordTablesModel" "meaningFlag" "[I") (by decide +kernel)
  have in_X11 : ∀ w ∈ wsX110, w ∈ wsX11_meantBy := by decide +kernel
  have hl : lv_has ls 6 [(0, .ref m), (1, .int (nI i))] := hl
  refine lv_aload_n hx hb dX11_meantBy_0 rfl (lv_at hl 0 rfl) ?_
  refine va_get (D := D) (ci := 11) (C := RX11) (T := TX11) (N := 37) hx hb hts in_X11 hown hK hP 0 rfl rfl 18 (by decide) fl_46 (fun _ h9 => h9) rfl dX11_meantBy_1 ?_
  refine lv_iload_n hx hb dX11_meantBy_4 rfl (lv_at hl 1 rfl) ?_
  refine ald_n hx hb hK hP 4 0 rfl rfl (show i < 24 by omega) (by first | decide | omega) dX11_meantBy_5 ?_
  refine topi_eq (hrt i hi).1 ?_
  refine lv_if_eq (tgt := 11) hx hb dX11_meantBy_6 (by decide) (fun c_6 => ?_) (fun c_6 => ?_)
  · obtain ⟨j, hj, e4, etw⟩ := RT_w hrt hi hnw c_6
    have hkd : kdB (F 9 j) 4 = decide (¬ wz j 2 &&& 16 = 0) := by obtain ⟨q, hq, e⟩ := (hrw j hj).2.2.2.2.2.2.2.2; rw [(hrw j hj).2.2.2.2.1, e]; exact kd4 q hq
    have hte := tm_eq (wz := wz) (mt := mt) (mf := mf) (fu := nI fq) etw (fun q hq => (hrm q hq).1)
    rw [e4] at hte
    refine lv_aload_n hx hb dX11_meantBy_11 rfl (lv_at hl 0 rfl) ?_
    refine va_get (D := D) (ci := 11) (C := RX11) (T := TX11) (N := 37) hx hb hts in_X11 hown hK hP 0 rfl rfl 21 (by decide) fl_55 (fun _ h9 => h9) rfl dX11_meantBy_12 ?_
    refine lv_iload_n hx hb dX11_meantBy_15 rfl (lv_at hl 1 rfl) ?_
    refine ald_n hx hb hK hP 5 0 rfl rfl (show i < 24 by omega) (by first | decide | omega) dX11_meantBy_16 ?_
    refine topi_eq ((hrt i hi).2.2.2.1.trans e4) ?_
    refine lv_istore_n (lv' := [(2, _), (0, _), (1, _)]) hx hb dX11_meantBy_17 rfl hl (by decide) rfl (fun ls hl => ?_)
    refine lv_aload_n hx hb dX11_meantBy_18 rfl (lv_at hl 1 rfl) ?_
    refine lv_iload_n hx hb dX11_meantBy_19 rfl (lv_at hl 0 rfl) ?_
    refine lv_iconst (v := 4) hx hb dX11_meantBy_20 (by decide) ?_
    refine ro_V (n := 2) X hK (c_X11_isKind (F := F) (show j < 40 by omega)) gX11_meantBy_X11_isKind rfl (by decide +kernel) ⟨rfl, rfl⟩ ⟨Nat.le_of_ble_eq_true rfl, Nat.le_of_ble_eq_true rfl⟩ (hP.sub [0, 1] rfl) (va_recv hK hP (ci := 11) (q0 := 0) rfl rfl) rfl hl.1 rfl (Nat.le_of_ble_eq_true rfl) dX11_meantBy_21 ⟨Nat.zero_le _, Nat.zero_le _⟩ ?_
    refine lv_if_eq (tgt := 36) hx hb dX11_meantBy_24 (by decide) (fun c_24 => ?_) (fun c_24 => ?_)
    · replace c_24 := bI_0.mp c_24
      refine lv_iconst (v := 0) hx hb dX11_meantBy_36 (by decide) ?_
      refine topi_eq (y := (if wz j 2 &&& 16 = 0 then 0 else wz j 5)) (by rw [hkd] at c_24; first | rw [if_pos (Classical.not_not.mp (of_decide_eq_false c_24))] | rw [if_neg (of_decide_eq_true c_24)]) ?_
      refine lv_istore_n (lv' := [(3, _), (2, _), (0, _), (1, _)]) hx hb dX11_meantBy_37 rfl hl (by decide) rfl (fun ls hl => ?_)
      refine lv_iconst (v := 0) hx hb dX11_meantBy_38 (by decide) ?_
      refine lv_istore (lv' := [(4, _), (3, _), (2, _), (0, _), (1, _)]) hx hb dX11_meantBy_39 hl (by decide) rfl (fun ls hl => ?_)
      have loop_41 : ∀ (fuel : Nat) (k : Nat) (v : Int32), mm - k < fuel → k ≤ mm → v = (if wz j 2 &&& 16 = 0 then 0 else wz j 5) ||| (mbF mt mw mf (nI fq) (nI j) k ||| mbF mt mw mf (nI fq) (wz j 4) k) → ∀ ls : Array Slot, lv_has ls 6 [(0, .ref m), (1, .int (nI i)), (2, .int (nI j)), (3, .int v), (4, .int (nI k))] → W pr l en { frames := 1, cells := 0, slots := 0, locals := 22 } ss mi ([.ref m, .int (nI i)] : List Value).toArray below meth cd ss.heap [] 0 0 (MQ below (k2_QcV (.int (tmI T nw wz mt mw mf (nI fq) mm i))) ([.ref m, .int (nI i)] : List Value).toArray ss 0 0 (fun _ => False)) (F0 mi 41 ls []) := by
        intro fuel
        induction fuel with
        | zero => intro k v hm; exact absurd hm (Nat.not_lt_zero _)
        | succ fuel ih =>
          intro k v hm hk hv  ls hl
          refine lv_iload hx hb dX11_meantBy_41 (lv_at hl 4 rfl) ?_
          refine lv_aload_n hx hb dX11_meantBy_43 rfl (lv_at hl 0 rfl) ?_
          refine va_get (D := D) (ci := 11) (C := RX11) (T := TX11) (N := 37) hx hb hts in_X11 hown hK hP 0 rfl rfl 30 (by decide) fl_188 (fun _ h9 => h9) rfl dX11_meantBy_44 ?_
          refine lv_icmp_ge (tgt := 139) hx hb dX11_meantBy_47 (by decide) (fun c_47 => ?_) (fun c_47 => ?_)
          · have hkm : k = mm := eq_ge c_47 hk (by omega)
            refine lv_iload_n hx hb dX11_meantBy_139 rfl (lv_at hl 3 rfl) ?_
            exact ro_iret X (by rw [hte, hv, hkm]) dX11_meantBy_140
          · have hlt : k < mm := lt_nge c_47 hk (by omega)
            obtain ⟨hm1, hm2⟩ := hold_m hfq (hrm k hlt).2
            refine lv_aload_n hx hb dX11_meantBy_50 rfl (lv_at hl 0 rfl) ?_
            refine va_get (D := D) (ci := 11) (C := RX11) (T := TX11) (N := 37) hx hb hts in_X11 hown hK hP 0 rfl rfl 33 (by decide) fl_79 (fun _ h9 => h9) rfl dX11_meantBy_51 ?_
            refine lv_iload hx hb dX11_meantBy_54 (lv_at hl 4 rfl) ?_
            refine ald_n hx hb hK hP 8 0 rfl rfl (show k < 60 by omega) (by first | decide | omega) dX11_meantBy_56 ?_
            refine lv_if_lt (tgt := 78) hx hb dX11_meantBy_57 (by decide) (fun c_57 => ?_) (fun c_57 => ?_)
            · have hhold : mf k = -1 ∨ upB (nI fq) (mf k) = true := by first | exact Or.inl (hm1 c_57) | exact (hm2 c_57).mp c_75
              refine lv_iconst (v := 1) hx hb dX11_meantBy_78 (by decide) ?_
              refine lv_goto (tgt := 83) hx hb dX11_meantBy_79 (by decide) ?_
              refine lv_istore (lv' := [(5, _), (0, _), (1, _), (2, _), (3, _), (4, _)]) hx hb dX11_meantBy_83 hl (by decide) rfl (fun ls hl => ?_)
              refine lv_iload_n hx hb dX11_meantBy_85 rfl (lv_at hl 4 rfl) ?_
              refine lv_iload hx hb dX11_meantBy_86 (lv_at hl 0 rfl) ?_
              refine lv_if_eq (tgt := 130) hx hb dX11_meantBy_88 (by decide) (fun c_88 => absurd c_88 (by decide)) (fun _ => ?_)
              refine lv_aload_n hx hb dX11_meantBy_91 rfl (lv_at hl 1 rfl) ?_
              refine va_get (D := D) (ci := 11) (C := RX11) (T := TX11) (N := 37) hx hb hts in_X11 hown hK hP 0 rfl rfl 32 (by decide) fl_76 (fun _ h9 => h9) rfl dX11_meantBy_92 ?_
              refine lv_iload hx hb dX11_meantBy_95 (lv_at hl 5 rfl) ?_
              refine ald_n hx hb hK hP 7 0 rfl rfl (show k < 60 by omega) (by first | decide | omega) dX11_meantBy_97 ?_
              refine lv_iload_n hx hb dX11_meantBy_98 rfl (lv_at hl 3 rfl) ?_
              refine lv_icmp_eq (tgt := 118) hx hb dX11_meantBy_99 (by decide) (fun c_99 => ?_) (fun c_99 => ?_)
              · refine lv_iconst (v := 1) hx hb dX11_meantBy_118 (by decide) ?_
                refine lv_aload_n hx hb dX11_meantBy_119 rfl (lv_at hl 1 rfl) ?_
                refine va_get (D := D) (ci := 11) (C := RX11) (T := TX11) (N := 37) hx hb hts in_X11 hown hK hP 0 rfl rfl 31 (by decide) fl_73 (fun _ h9 => h9) rfl dX11_meantBy_120 ?_
                refine lv_iload hx hb dX11_meantBy_123 (lv_at hl 5 rfl) ?_
                refine ald_n hx hb hK hP 6 0 rfl rfl (show k < 60 by omega) (by first | decide | omega) dX11_meantBy_125 ?_
                refine lv_ishl hx hb dX11_meantBy_126 ?_
                refine lv_goto (tgt := 131) hx hb dX11_meantBy_127 (by decide) ?_
                refine lv_ior hx hb dX11_meantBy_131 ?_
                refine lv_istore_n (lv' := [(3, _), (5, _), (0, _), (1, _), (2, _), (4, _)]) hx hb dX11_meantBy_132 rfl hl (by decide) rfl (fun ls hl => ?_)
                refine lv_iinc (v := (_ : Int32) + 1) (lv' := [(4, _), (3, _), (5, _), (0, _), (1, _), (2, _)]) hx hb dX11_meantBy_133 hl (k := 5) rfl rfl (by decide) rfl (fun ls hl => ?_)
                refine lv_goto (tgt := 41) hx hb dX11_meantBy_136 (by decide) ?_
                rw [nI_1] at hl
                exact ih (k + 1) _ (by omega) (by omega) (by rw [hv]; exact mb_s hhold (by first | exact Or.inl c_99 | exact Or.inr c_115))  _ (lv_sub hl [3, 4, 5, 1, 0] rfl)
              · refine lv_aload_n hx hb dX11_meantBy_102 rfl (lv_at hl 1 rfl) ?_
                refine va_get (D := D) (ci := 11) (C := RX11) (T := TX11) (N := 37) hx hb hts in_X11 hown hK hP 0 rfl rfl 32 (by decide) fl_76 (fun _ h9 => h9) rfl dX11_meantBy_103 ?_
                refine lv_iload hx hb dX11_meantBy_106 (lv_at hl 5 rfl) ?_
                refine ald_n hx hb hK hP 7 0 rfl rfl (show k < 60 by omega) (by first | decide | omega) dX11_meantBy_108 ?_
                refine lv_aload_n hx hb dX11_meantBy_109 rfl (lv_at hl 1 rfl) ?_
                refine va_get (D := D) (ci := 11) (C := RX11) (T := TX11) (N := 37) hx hb hts in_X11 hown hK hP 0 rfl rfl 11 (by decide) fl_31 (fun _ h9 => h9) rfl dX11_meantBy_110 ?_
                refine lv_iload_n hx hb dX11_meantBy_113 rfl (lv_at hl 3 rfl) ?_
                refine ald_n hx hb hK hP 2 0 rfl rfl (show j < 40 by omega) (by first | decide | omega) dX11_meantBy_114 ?_
                refine topi_eq (hrw j hj).2.2.2.2.2.2.1 ?_
                refine lv_icmp_ne (tgt := 130) hx hb dX11_meantBy_115 (by decide) (fun c_115 => ?_) (fun c_115 => ?_)
                · have hnot : ¬ ((mf k = -1 ∨ upB (nI fq) (mf k) = true) ∧ (mw k = nI j ∨ mw k = wz j 4)) := fun q => by first | exact hhold q.1 | exact q.2.elim c_99 c_115
                  refine lv_iconst (v := 0) hx hb dX11_meantBy_130 (by decide) ?_
                  refine lv_ior hx hb dX11_meantBy_131 ?_
                  refine lv_istore_n (lv' := [(3, _), (5, _), (0, _), (1, _), (2, _), (4, _)]) hx hb dX11_meantBy_132 rfl hl (by decide) rfl (fun ls hl => ?_)
                  refine lv_iinc (v := (_ : Int32) + 1) (lv' := [(4, _), (3, _), (5, _), (0, _), (1, _), (2, _)]) hx hb dX11_meantBy_133 hl (k := 5) rfl rfl (by decide) rfl (fun ls hl => ?_)
                  refine lv_goto (tgt := 41) hx hb dX11_meantBy_136 (by decide) ?_
                  rw [nI_1] at hl
                  exact ih (k + 1) _ (by omega) (by omega) (by rw [hv, Int32.or_zero]; rw [mb_n (fun q => hnot q)])  _ (lv_sub hl [3, 4, 5, 1, 0] rfl)
                · refine lv_iconst (v := 1) hx hb dX11_meantBy_118 (by decide) ?_
                  refine lv_aload_n hx hb dX11_meantBy_119 rfl (lv_at hl 1 rfl) ?_
                  refine va_get (D := D) (ci := 11) (C := RX11) (T := TX11) (N := 37) hx hb hts in_X11 hown hK hP 0 rfl rfl 31 (by decide) fl_73 (fun _ h9 => h9) rfl dX11_meantBy_120 ?_
                  refine lv_iload hx hb dX11_meantBy_123 (lv_at hl 5 rfl) ?_
                  refine ald_n hx hb hK hP 6 0 rfl rfl (show k < 60 by omega) (by first | decide | omega) dX11_meantBy_125 ?_
                  refine lv_ishl hx hb dX11_meantBy_126 ?_
                  refine lv_goto (tgt := 131) hx hb dX11_meantBy_127 (by decide) ?_
                  refine lv_ior hx hb dX11_meantBy_131 ?_
                  refine lv_istore_n (lv' := [(3, _), (5, _), (0, _), (1, _), (2, _), (4, _)]) hx hb dX11_meantBy_132 rfl hl (by decide) rfl (fun ls hl => ?_)
                  refine lv_iinc (v := (_ : Int32) + 1) (lv' := [(4, _), (3, _), (5, _), (0, _), (1, _), (2, _)]) hx hb dX11_meantBy_133 hl (k := 5) rfl rfl (by decide) rfl (fun ls hl => ?_)
                  refine lv_goto (tgt := 41) hx hb dX11_meantBy_136 (by decide) ?_
                  rw [nI_1] at hl
                  exact ih (k + 1) _ (by omega) (by omega) (by rw [hv]; exact mb_s hhold (by first | exact Or.inl c_99 | exact Or.inr c_115))  _ (lv_sub hl [3, 4, 5, 1, 0] rfl)
            · refine lv_aload_n hx hb dX11_meantBy_60 rfl (lv_at hl 0 rfl) ?_
              refine va_get (D := D) (ci := 11) (C := RX11) (T := TX11) (N := 37) hx hb hts in_X11 hown hK hP 0 rfl rfl 34 (by decide) fl_191 (fun _ h9 => h9) rfl dX11_meantBy_61 ?_
              refine lv_aload_n hx hb dX11_meantBy_64 rfl (lv_at hl 0 rfl) ?_
              refine va_get (D := D) (ci := 11) (C := RX11) (T := TX11) (N := 37) hx hb hts in_X11 hown hK hP 0 rfl rfl 33 (by decide) fl_79 (fun _ h9 => h9) rfl dX11_meantBy_65 ?_
              refine lv_iload hx hb dX11_meantBy_68 (lv_at hl 4 rfl) ?_
              refine ald_n hx hb hK hP 8 0 rfl rfl (show k < 60 by omega) (by first | decide | omega) dX11_meantBy_70 ?_
              refine lv_ishr hx hb dX11_meantBy_71 ?_
              refine lv_iconst (v := 1) hx hb dX11_meantBy_72 (by decide) ?_
              refine lv_iand hx hb dX11_meantBy_73 ?_
              refine lv_iconst (v := 1) hx hb dX11_meantBy_74 (by decide) ?_
              refine lv_icmp_ne (tgt := 82) hx hb dX11_meantBy_75 (by decide) (fun c_75 => ?_) (fun c_75 => ?_)
              · have hhold : ¬ (mf k = -1 ∨ upB (nI fq) (mf k) = true) := fun q => c_75 ((hm2 c_57).mpr q)
                refine lv_iconst (v := 0) hx hb dX11_meantBy_82 (by decide) ?_
                refine lv_istore (lv' := [(5, _), (0, _), (1, _), (2, _), (3, _), (4, _)]) hx hb dX11_meantBy_83 hl (by decide) rfl (fun ls hl => ?_)
                refine lv_iload_n hx hb dX11_meantBy_85 rfl (lv_at hl 4 rfl) ?_
                refine lv_iload hx hb dX11_meantBy_86 (lv_at hl 0 rfl) ?_
                refine lv_if_eq (tgt := 130) hx hb dX11_meantBy_88 (by decide) (fun _ => ?_) (fun c_88 => absurd c_88 (by decide))
                have hnot : ¬ ((mf k = -1 ∨ upB (nI fq) (mf k) = true) ∧ (mw k = nI j ∨ mw k = wz j 4)) := fun q => by first | exact hhold q.1 | exact q.2.elim c_99 c_115
                refine lv_iconst (v := 0) hx hb dX11_meantBy_130 (by decide) ?_
                refine lv_ior hx hb dX11_meantBy_131 ?_
                refine lv_istore_n (lv' := [(3, _), (5, _), (0, _), (1, _), (2, _), (4, _)]) hx hb dX11_meantBy_132 rfl hl (by decide) rfl (fun ls hl => ?_)
                refine lv_iinc (v := (_ : Int32) + 1) (lv' := [(4, _), (3, _), (5, _), (0, _), (1, _), (2, _)]) hx hb dX11_meantBy_133 hl (k := 5) rfl rfl (by decide) rfl (fun ls hl => ?_)
                refine lv_goto (tgt := 41) hx hb dX11_meantBy_136 (by decide) ?_
                rw [nI_1] at hl
                exact ih (k + 1) _ (by omega) (by omega) (by rw [hv, Int32.or_zero]; rw [mb_n (fun q => hnot q)])  _ (lv_sub hl [3, 4, 5, 1, 0] rfl)
              · have hhold : mf k = -1 ∨ upB (nI fq) (mf k) = true := by first | exact Or.inl (hm1 c_57) | exact (hm2 c_57).mp c_75
                refine lv_iconst (v := 1) hx hb dX11_meantBy_78 (by decide) ?_
                refine lv_goto (tgt := 83) hx hb dX11_meantBy_79 (by decide) ?_
                refine lv_istore (lv' := [(5, _), (0, _), (1, _), (2, _), (3, _), (4, _)]) hx hb dX11_meantBy_83 hl (by decide) rfl (fun ls hl => ?_)
                refine lv_iload_n hx hb dX11_meantBy_85 rfl (lv_at hl 4 rfl) ?_
                refine lv_iload hx hb dX11_meantBy_86 (lv_at hl 0 rfl) ?_
                refine lv_if_eq (tgt := 130) hx hb dX11_meantBy_88 (by decide) (fun c_88 => absurd c_88 (by decide)) (fun _ => ?_)
                refine lv_aload_n hx hb dX11_meantBy_91 rfl (lv_at hl 1 rfl) ?_
                refine va_get (D := D) (ci := 11) (C := RX11) (T := TX11) (N := 37) hx hb hts in_X11 hown hK hP 0 rfl rfl 32 (by decide) fl_76 (fun _ h9 => h9) rfl dX11_meantBy_92 ?_
                refine lv_iload hx hb dX11_meantBy_95 (lv_at hl 5 rfl) ?_
                refine ald_n hx hb hK hP 7 0 rfl rfl (show k < 60 by omega) (by first | decide | omega) dX11_meantBy_97 ?_
                refine lv_iload_n hx hb dX11_meantBy_98 rfl (lv_at hl 3 rfl) ?_
                refine lv_icmp_eq (tgt := 118) hx hb dX11_meantBy_99 (by decide) (fun c_99 => ?_) (fun c_99 => ?_)
                · refine lv_iconst (v := 1) hx hb dX11_meantBy_118 (by decide) ?_
                  refine lv_aload_n hx hb dX11_meantBy_119 rfl (lv_at hl 1 rfl) ?_
                  refine va_get (D := D) (ci := 11) (C := RX11) (T := TX11) (N := 37) hx hb hts in_X11 hown hK hP 0 rfl rfl 31 (by decide) fl_73 (fun _ h9 => h9) rfl dX11_meantBy_120 ?_
                  refine lv_iload hx hb dX11_meantBy_123 (lv_at hl 5 rfl) ?_
                  refine ald_n hx hb hK hP 6 0 rfl rfl (show k < 60 by omega) (by first | decide | omega) dX11_meantBy_125 ?_
                  refine lv_ishl hx hb dX11_meantBy_126 ?_
                  refine lv_goto (tgt := 131) hx hb dX11_meantBy_127 (by decide) ?_
                  refine lv_ior hx hb dX11_meantBy_131 ?_
                  refine lv_istore_n (lv' := [(3, _), (5, _), (0, _), (1, _), (2, _), (4, _)]) hx hb dX11_meantBy_132 rfl hl (by decide) rfl (fun ls hl => ?_)
                  refine lv_iinc (v := (_ : Int32) + 1) (lv' := [(4, _), (3, _), (5, _), (0, _), (1, _), (2, _)]) hx hb dX11_meantBy_133 hl (k := 5) rfl rfl (by decide) rfl (fun ls hl => ?_)
                  refine lv_goto (tgt := 41) hx hb dX11_meantBy_136 (by decide) ?_
                  rw [nI_1] at hl
                  exact ih (k + 1) _ (by omega) (by omega) (by rw [hv]; exact mb_s hhold (by first | exact Or.inl c_99 | exact Or.inr c_115))  _ (lv_sub hl [3, 4, 5, 1, 0] rfl)
                · refine lv_aload_n hx hb dX11_meantBy_102 rfl (lv_at hl 1 rfl) ?_
                  refine va_get (D := D) (ci := 11) (C := RX11) (T := TX11) (N := 37) hx hb hts in_X11 hown hK hP 0 rfl rfl 32 (by decide) fl_76 (fun _ h9 => h9) rfl dX11_meantBy_103 ?_
                  refine lv_iload hx hb dX11_meantBy_106 (lv_at hl 5 rfl) ?_
                  refine ald_n hx hb hK hP 7 0 rfl rfl (show k < 60 by omega) (by first | decide | omega) dX11_meantBy_108 ?_
                  refine lv_aload_n hx hb dX11_meantBy_109 rfl (lv_at hl 1 rfl) ?_
                  refine va_get (D := D) (ci := 11) (C := RX11) (T := TX11) (N := 37) hx hb hts in_X11 hown hK hP 0 rfl rfl 11 (by decide) fl_31 (fun _ h9 => h9) rfl dX11_meantBy_110 ?_
                  refine lv_iload_n hx hb dX11_meantBy_113 rfl (lv_at hl 3 rfl) ?_
                  refine ald_n hx hb hK hP 2 0 rfl rfl (show j < 40 by omega) (by first | decide | omega) dX11_meantBy_114 ?_
                  refine topi_eq (hrw j hj).2.2.2.2.2.2.1 ?_
                  refine lv_icmp_ne (tgt := 130) hx hb dX11_meantBy_115 (by decide) (fun c_115 => ?_) (fun c_115 => ?_)
                  · have hnot : ¬ ((mf k = -1 ∨ upB (nI fq) (mf k) = true) ∧ (mw k = nI j ∨ mw k = wz j 4)) := fun q => by first | exact hhold q.1 | exact q.2.elim c_99 c_115
                    refine lv_iconst (v := 0) hx hb dX11_meantBy_130 (by decide) ?_
                    refine lv_ior hx hb dX11_meantBy_131 ?_
                    refine lv_istore_n (lv' := [(3, _), (5, _), (0, _), (1, _), (2, _), (4, _)]) hx hb dX11_meantBy_132 rfl hl (by decide) rfl (fun ls hl => ?_)
                    refine lv_iinc (v := (_ : Int32) + 1) (lv' := [(4, _), (3, _), (5, _), (0, _), (1, _), (2, _)]) hx hb dX11_meantBy_133 hl (k := 5) rfl rfl (by decide) rfl (fun ls hl => ?_)
                    refine lv_goto (tgt := 41) hx hb dX11_meantBy_136 (by decide) ?_
                    rw [nI_1] at hl
                    exact ih (k + 1) _ (by omega) (by omega) (by rw [hv, Int32.or_zero]; rw [mb_n (fun q => hnot q)])  _ (lv_sub hl [3, 4, 5, 1, 0] rfl)
                  · refine lv_iconst (v := 1) hx hb dX11_meantBy_118 (by decide) ?_
                    refine lv_aload_n hx hb dX11_meantBy_119 rfl (lv_at hl 1 rfl) ?_
                    refine va_get (D := D) (ci := 11) (C := RX11) (T := TX11) (N := 37) hx hb hts in_X11 hown hK hP 0 rfl rfl 31 (by decide) fl_73 (fun _ h9 => h9) rfl dX11_meantBy_120 ?_
                    refine lv_iload hx hb dX11_meantBy_123 (lv_at hl 5 rfl) ?_
                    refine ald_n hx hb hK hP 6 0 rfl rfl (show k < 60 by omega) (by first | decide | omega) dX11_meantBy_125 ?_
                    refine lv_ishl hx hb dX11_meantBy_126 ?_
                    refine lv_goto (tgt := 131) hx hb dX11_meantBy_127 (by decide) ?_
                    refine lv_ior hx hb dX11_meantBy_131 ?_
                    refine lv_istore_n (lv' := [(3, _), (5, _), (0, _), (1, _), (2, _), (4, _)]) hx hb dX11_meantBy_132 rfl hl (by decide) rfl (fun ls hl => ?_)
                    refine lv_iinc (v := (_ : Int32) + 1) (lv' := [(4, _), (3, _), (5, _), (0, _), (1, _), (2, _)]) hx hb dX11_meantBy_133 hl (k := 5) rfl rfl (by decide) rfl (fun ls hl => ?_)
                    refine lv_goto (tgt := 41) hx hb dX11_meantBy_136 (by decide) ?_
                    rw [nI_1] at hl
                    exact ih (k + 1) _ (by omega) (by omega) (by rw [hv]; exact mb_s hhold (by first | exact Or.inl c_99 | exact Or.inr c_115))  _ (lv_sub hl [3, 4, 5, 1, 0] rfl)
      exact loop_41 (mm + 1) 0 _ (by omega) (Nat.zero_le _) (by show _ = _ ||| ((0 : Int32) ||| 0); rw [Int32.or_zero, Int32.or_zero])  ls (lv_sub hl [3, 4, 2, 1, 0] rfl)
    · replace c_24 := bI_n0.mp c_24
      refine lv_aload_n hx hb dX11_meantBy_27 rfl (lv_at hl 1 rfl) ?_
      refine va_get (D := D) (ci := 11) (C := RX11) (T := TX11) (N := 37) hx hb hts in_X11 hown hK hP 0 rfl rfl 12 (by decide) fl_34 (fun _ h9 => h9) rfl dX11_meantBy_28 ?_
      refine lv_iload_n hx hb dX11_meantBy_31 rfl (lv_at hl 0 rfl) ?_
      refine ald_n hx hb hK hP 3 0 rfl rfl (show j < 40 by omega) (by first | decide | omega) dX11_meantBy_32 ?_
      refine topi_eq (hrw j hj).2.2.2.2.2.2.2.1 ?_
      refine lv_goto (tgt := 37) hx hb dX11_meantBy_33 (by decide) ?_
      refine topi_eq (y := (if wz j 2 &&& 16 = 0 then 0 else wz j 5)) (by rw [hkd] at c_24; first | rw [if_pos (Classical.not_not.mp (of_decide_eq_false c_24))] | rw [if_neg (of_decide_eq_true c_24)]) ?_
      refine lv_istore_n (lv' := [(3, _), (2, _), (0, _), (1, _)]) hx hb dX11_meantBy_37 rfl hl (by decide) rfl (fun ls hl => ?_)
      refine lv_iconst (v := 0) hx hb dX11_meantBy_38 (by decide) ?_
      refine lv_istore (lv' := [(4, _), (3, _), (2, _), (0, _), (1, _)]) hx hb dX11_meantBy_39 hl (by decide) rfl (fun ls hl => ?_)
      have loop_41 : ∀ (fuel : Nat) (k : Nat) (v : Int32), mm - k < fuel → k ≤ mm → v = (if wz j 2 &&& 16 = 0 then 0 else wz j 5) ||| (mbF mt mw mf (nI fq) (nI j) k ||| mbF mt mw mf (nI fq) (wz j 4) k) → ∀ ls : Array Slot, lv_has ls 6 [(0, .ref m), (1, .int (nI i)), (2, .int (nI j)), (3, .int v), (4, .int (nI k))] → W pr l en { frames := 1, cells := 0, slots := 0, locals := 22 } ss mi ([.ref m, .int (nI i)] : List Value).toArray below meth cd ss.heap [] 0 0 (MQ below (k2_QcV (.int (tmI T nw wz mt mw mf (nI fq) mm i))) ([.ref m, .int (nI i)] : List Value).toArray ss 0 0 (fun _ => False)) (F0 mi 41 ls []) := by
        intro fuel
        induction fuel with
        | zero => intro k v hm; exact absurd hm (Nat.not_lt_zero _)
        | succ fuel ih =>
          intro k v hm hk hv  ls hl
          refine lv_iload hx hb dX11_meantBy_41 (lv_at hl 4 rfl) ?_
          refine lv_aload_n hx hb dX11_meantBy_43 rfl (lv_at hl 0 rfl) ?_
          refine va_get (D := D) (ci := 11) (C := RX11) (T := TX11) (N := 37) hx hb hts in_X11 hown hK hP 0 rfl rfl 30 (by decide) fl_188 (fun _ h9 => h9) rfl dX11_meantBy_44 ?_
          refine lv_icmp_ge (tgt := 139) hx hb dX11_meantBy_47 (by decide) (fun c_47 => ?_) (fun c_47 => ?_)
          · have hkm : k = mm := eq_ge c_47 hk (by omega)
            refine lv_iload_n hx hb dX11_meantBy_139 rfl (lv_at hl 3 rfl) ?_
            exact ro_iret X (by rw [hte, hv, hkm]) dX11_meantBy_140
          · have hlt : k < mm := lt_nge c_47 hk (by omega)
            obtain ⟨hm1, hm2⟩ := hold_m hfq (hrm k hlt).2
            refine lv_aload_n hx hb dX11_meantBy_50 rfl (lv_at hl 0 rfl) ?_
            refine va_get (D := D) (ci := 11) (C := RX11) (T := TX11) (N := 37) hx hb hts in_X11 hown hK hP 0 rfl rfl 33 (by decide) fl_79 (fun _ h9 => h9) rfl dX11_meantBy_51 ?_
            refine lv_iload hx hb dX11_meantBy_54 (lv_at hl 4 rfl) ?_
            refine ald_n hx hb hK hP 8 0 rfl rfl (show k < 60 by omega) (by first | decide | omega) dX11_meantBy_56 ?_
            refine lv_if_lt (tgt := 78) hx hb dX11_meantBy_57 (by decide) (fun c_57 => ?_) (fun c_57 => ?_)
            · have hhold : mf k = -1 ∨ upB (nI fq) (mf k) = true := by first | exact Or.inl (hm1 c_57) | exact (hm2 c_57).mp c_75
              refine lv_iconst (v := 1) hx hb dX11_meantBy_78 (by decide) ?_
              refine lv_goto (tgt := 83) hx hb dX11_meantBy_79 (by decide) ?_
              refine lv_istore (lv' := [(5, _), (0, _), (1, _), (2, _), (3, _), (4, _)]) hx hb dX11_meantBy_83 hl (by decide) rfl (fun ls hl => ?_)
              refine lv_iload_n hx hb dX11_meantBy_85 rfl (lv_at hl 4 rfl) ?_
              refine lv_iload hx hb dX11_meantBy_86 (lv_at hl 0 rfl) ?_
              refine lv_if_eq (tgt := 130) hx hb dX11_meantBy_88 (by decide) (fun c_88 => absurd c_88 (by decide)) (fun _ => ?_)
              refine lv_aload_n hx hb dX11_meantBy_91 rfl (lv_at hl 1 rfl) ?_
              refine va_get (D := D) (ci := 11) (C := RX11) (T := TX11) (N := 37) hx hb hts in_X11 hown hK hP 0 rfl rfl 32 (by decide) fl_76 (fun _ h9 => h9) rfl dX11_meantBy_92 ?_
              refine lv_iload hx hb dX11_meantBy_95 (lv_at hl 5 rfl) ?_
              refine ald_n hx hb hK hP 7 0 rfl rfl (show k < 60 by omega) (by first | decide | omega) dX11_meantBy_97 ?_
              refine lv_iload_n hx hb dX11_meantBy_98 rfl (lv_at hl 3 rfl) ?_
              refine lv_icmp_eq (tgt := 118) hx hb dX11_meantBy_99 (by decide) (fun c_99 => ?_) (fun c_99 => ?_)
              · refine lv_iconst (v := 1) hx hb dX11_meantBy_118 (by decide) ?_
                refine lv_aload_n hx hb dX11_meantBy_119 rfl (lv_at hl 1 rfl) ?_
                refine va_get (D := D) (ci := 11) (C := RX11) (T := TX11) (N := 37) hx hb hts in_X11 hown hK hP 0 rfl rfl 31 (by decide) fl_73 (fun _ h9 => h9) rfl dX11_meantBy_120 ?_
                refine lv_iload hx hb dX11_meantBy_123 (lv_at hl 5 rfl) ?_
                refine ald_n hx hb hK hP 6 0 rfl rfl (show k < 60 by omega) (by first | decide | omega) dX11_meantBy_125 ?_
                refine lv_ishl hx hb dX11_meantBy_126 ?_
                refine lv_goto (tgt := 131) hx hb dX11_meantBy_127 (by decide) ?_
                refine lv_ior hx hb dX11_meantBy_131 ?_
                refine lv_istore_n (lv' := [(3, _), (5, _), (0, _), (1, _), (2, _), (4, _)]) hx hb dX11_meantBy_132 rfl hl (by decide) rfl (fun ls hl => ?_)
                refine lv_iinc (v := (_ : Int32) + 1) (lv' := [(4, _), (3, _), (5, _), (0, _), (1, _), (2, _)]) hx hb dX11_meantBy_133 hl (k := 5) rfl rfl (by decide) rfl (fun ls hl => ?_)
                refine lv_goto (tgt := 41) hx hb dX11_meantBy_136 (by decide) ?_
                rw [nI_1] at hl
                exact ih (k + 1) _ (by omega) (by omega) (by rw [hv]; exact mb_s hhold (by first | exact Or.inl c_99 | exact Or.inr c_115))  _ (lv_sub hl [3, 4, 5, 1, 0] rfl)
              · refine lv_aload_n hx hb dX11_meantBy_102 rfl (lv_at hl 1 rfl) ?_
                refine va_get (D := D) (ci := 11) (C := RX11) (T := TX11) (N := 37) hx hb hts in_X11 hown hK hP 0 rfl rfl 32 (by decide) fl_76 (fun _ h9 => h9) rfl dX11_meantBy_103 ?_
                refine lv_iload hx hb dX11_meantBy_106 (lv_at hl 5 rfl) ?_
                refine ald_n hx hb hK hP 7 0 rfl rfl (show k < 60 by omega) (by first | decide | omega) dX11_meantBy_108 ?_
                refine lv_aload_n hx hb dX11_meantBy_109 rfl (lv_at hl 1 rfl) ?_
                refine va_get (D := D) (ci := 11) (C := RX11) (T := TX11) (N := 37) hx hb hts in_X11 hown hK hP 0 rfl rfl 11 (by decide) fl_31 (fun _ h9 => h9) rfl dX11_meantBy_110 ?_
                refine lv_iload_n hx hb dX11_meantBy_113 rfl (lv_at hl 3 rfl) ?_
                refine ald_n hx hb hK hP 2 0 rfl rfl (show j < 40 by omega) (by first | decide | omega) dX11_meantBy_114 ?_
                refine topi_eq (hrw j hj).2.2.2.2.2.2.1 ?_
                refine lv_icmp_ne (tgt := 130) hx hb dX11_meantBy_115 (by decide) (fun c_115 => ?_) (fun c_115 => ?_)
                · have hnot : ¬ ((mf k = -1 ∨ upB (nI fq) (mf k) = true) ∧ (mw k = nI j ∨ mw k = wz j 4)) := fun q => by first | exact hhold q.1 | exact q.2.elim c_99 c_115
                  refine lv_iconst (v := 0) hx hb dX11_meantBy_130 (by decide) ?_
                  refine lv_ior hx hb dX11_meantBy_131 ?_
                  refine lv_istore_n (lv' := [(3, _), (5, _), (0, _), (1, _), (2, _), (4, _)]) hx hb dX11_meantBy_132 rfl hl (by decide) rfl (fun ls hl => ?_)
                  refine lv_iinc (v := (_ : Int32) + 1) (lv' := [(4, _), (3, _), (5, _), (0, _), (1, _), (2, _)]) hx hb dX11_meantBy_133 hl (k := 5) rfl rfl (by decide) rfl (fun ls hl => ?_)
                  refine lv_goto (tgt := 41) hx hb dX11_meantBy_136 (by decide) ?_
                  rw [nI_1] at hl
                  exact ih (k + 1) _ (by omega) (by omega) (by rw [hv, Int32.or_zero]; rw [mb_n (fun q => hnot q)])  _ (lv_sub hl [3, 4, 5, 1, 0] rfl)
                · refine lv_iconst (v := 1) hx hb dX11_meantBy_118 (by decide) ?_
                  refine lv_aload_n hx hb dX11_meantBy_119 rfl (lv_at hl 1 rfl) ?_
                  refine va_get (D := D) (ci := 11) (C := RX11) (T := TX11) (N := 37) hx hb hts in_X11 hown hK hP 0 rfl rfl 31 (by decide) fl_73 (fun _ h9 => h9) rfl dX11_meantBy_120 ?_
                  refine lv_iload hx hb dX11_meantBy_123 (lv_at hl 5 rfl) ?_
                  refine ald_n hx hb hK hP 6 0 rfl rfl (show k < 60 by omega) (by first | decide | omega) dX11_meantBy_125 ?_
                  refine lv_ishl hx hb dX11_meantBy_126 ?_
                  refine lv_goto (tgt := 131) hx hb dX11_meantBy_127 (by decide) ?_
                  refine lv_ior hx hb dX11_meantBy_131 ?_
                  refine lv_istore_n (lv' := [(3, _), (5, _), (0, _), (1, _), (2, _), (4, _)]) hx hb dX11_meantBy_132 rfl hl (by decide) rfl (fun ls hl => ?_)
                  refine lv_iinc (v := (_ : Int32) + 1) (lv' := [(4, _), (3, _), (5, _), (0, _), (1, _), (2, _)]) hx hb dX11_meantBy_133 hl (k := 5) rfl rfl (by decide) rfl (fun ls hl => ?_)
                  refine lv_goto (tgt := 41) hx hb dX11_meantBy_136 (by decide) ?_
                  rw [nI_1] at hl
                  exact ih (k + 1) _ (by omega) (by omega) (by rw [hv]; exact mb_s hhold (by first | exact Or.inl c_99 | exact Or.inr c_115))  _ (lv_sub hl [3, 4, 5, 1, 0] rfl)
            · refine lv_aload_n hx hb dX11_meantBy_60 rfl (lv_at hl 0 rfl) ?_
              refine va_get (D := D) (ci := 11) (C := RX11) (T := TX11) (N := 37) hx hb hts in_X11 hown hK hP 0 rfl rfl 34 (by decide) fl_191 (fun _ h9 => h9) rfl dX11_meantBy_61 ?_
              refine lv_aload_n hx hb dX11_meantBy_64 rfl (lv_at hl 0 rfl) ?_
              refine va_get (D := D) (ci := 11) (C := RX11) (T := TX11) (N := 37) hx hb hts in_X11 hown hK hP 0 rfl rfl 33 (by decide) fl_79 (fun _ h9 => h9) rfl dX11_meantBy_65 ?_
              refine lv_iload hx hb dX11_meantBy_68 (lv_at hl 4 rfl) ?_
              refine ald_n hx hb hK hP 8 0 rfl rfl (show k < 60 by omega) (by first | decide | omega) dX11_meantBy_70 ?_
              refine lv_ishr hx hb dX11_meantBy_71 ?_
              refine lv_iconst (v := 1) hx hb dX11_meantBy_72 (by decide) ?_
              refine lv_iand hx hb dX11_meantBy_73 ?_
              refine lv_iconst (v := 1) hx hb dX11_meantBy_74 (by decide) ?_
              refine lv_icmp_ne (tgt := 82) hx hb dX11_meantBy_75 (by decide) (fun c_75 => ?_) (fun c_75 => ?_)
              · have hhold : ¬ (mf k = -1 ∨ upB (nI fq) (mf k) = true) := fun q => c_75 ((hm2 c_57).mpr q)
                refine lv_iconst (v := 0) hx hb dX11_meantBy_82 (by decide) ?_
                refine lv_istore (lv' := [(5, _), (0, _), (1, _), (2, _), (3, _), (4, _)]) hx hb dX11_meantBy_83 hl (by decide) rfl (fun ls hl => ?_)
                refine lv_iload_n hx hb dX11_meantBy_85 rfl (lv_at hl 4 rfl) ?_
                refine lv_iload hx hb dX11_meantBy_86 (lv_at hl 0 rfl) ?_
                refine lv_if_eq (tgt := 130) hx hb dX11_meantBy_88 (by decide) (fun _ => ?_) (fun c_88 => absurd c_88 (by decide))
                have hnot : ¬ ((mf k = -1 ∨ upB (nI fq) (mf k) = true) ∧ (mw k = nI j ∨ mw k = wz j 4)) := fun q => by first | exact hhold q.1 | exact q.2.elim c_99 c_115
                refine lv_iconst (v := 0) hx hb dX11_meantBy_130 (by decide) ?_
                refine lv_ior hx hb dX11_meantBy_131 ?_
                refine lv_istore_n (lv' := [(3, _), (5, _), (0, _), (1, _), (2, _), (4, _)]) hx hb dX11_meantBy_132 rfl hl (by decide) rfl (fun ls hl => ?_)
                refine lv_iinc (v := (_ : Int32) + 1) (lv' := [(4, _), (3, _), (5, _), (0, _), (1, _), (2, _)]) hx hb dX11_meantBy_133 hl (k := 5) rfl rfl (by decide) rfl (fun ls hl => ?_)
                refine lv_goto (tgt := 41) hx hb dX11_meantBy_136 (by decide) ?_
                rw [nI_1] at hl
                exact ih (k + 1) _ (by omega) (by omega) (by rw [hv, Int32.or_zero]; rw [mb_n (fun q => hnot q)])  _ (lv_sub hl [3, 4, 5, 1, 0] rfl)
              · have hhold : mf k = -1 ∨ upB (nI fq) (mf k) = true := by first | exact Or.inl (hm1 c_57) | exact (hm2 c_57).mp c_75
                refine lv_iconst (v := 1) hx hb dX11_meantBy_78 (by decide) ?_
                refine lv_goto (tgt := 83) hx hb dX11_meantBy_79 (by decide) ?_
                refine lv_istore (lv' := [(5, _), (0, _), (1, _), (2, _), (3, _), (4, _)]) hx hb dX11_meantBy_83 hl (by decide) rfl (fun ls hl => ?_)
                refine lv_iload_n hx hb dX11_meantBy_85 rfl (lv_at hl 4 rfl) ?_
                refine lv_iload hx hb dX11_meantBy_86 (lv_at hl 0 rfl) ?_
                refine lv_if_eq (tgt := 130) hx hb dX11_meantBy_88 (by decide) (fun c_88 => absurd c_88 (by decide)) (fun _ => ?_)
                refine lv_aload_n hx hb dX11_meantBy_91 rfl (lv_at hl 1 rfl) ?_
                refine va_get (D := D) (ci := 11) (C := RX11) (T := TX11) (N := 37) hx hb hts in_X11 hown hK hP 0 rfl rfl 32 (by decide) fl_76 (fun _ h9 => h9) rfl dX11_meantBy_92 ?_
                refine lv_iload hx hb dX11_meantBy_95 (lv_at hl 5 rfl) ?_
                refine ald_n hx hb hK hP 7 0 rfl rfl (show k < 60 by omega) (by first | decide | omega) dX11_meantBy_97 ?_
                refine lv_iload_n hx hb dX11_meantBy_98 rfl (lv_at hl 3 rfl) ?_
                refine lv_icmp_eq (tgt := 118) hx hb dX11_meantBy_99 (by decide) (fun c_99 => ?_) (fun c_99 => ?_)
                · refine lv_iconst (v := 1) hx hb dX11_meantBy_118 (by decide) ?_
                  refine lv_aload_n hx hb dX11_meantBy_119 rfl (lv_at hl 1 rfl) ?_
                  refine va_get (D := D) (ci := 11) (C := RX11) (T := TX11) (N := 37) hx hb hts in_X11 hown hK hP 0 rfl rfl 31 (by decide) fl_73 (fun _ h9 => h9) rfl dX11_meantBy_120 ?_
                  refine lv_iload hx hb dX11_meantBy_123 (lv_at hl 5 rfl) ?_
                  refine ald_n hx hb hK hP 6 0 rfl rfl (show k < 60 by omega) (by first | decide | omega) dX11_meantBy_125 ?_
                  refine lv_ishl hx hb dX11_meantBy_126 ?_
                  refine lv_goto (tgt := 131) hx hb dX11_meantBy_127 (by decide) ?_
                  refine lv_ior hx hb dX11_meantBy_131 ?_
                  refine lv_istore_n (lv' := [(3, _), (5, _), (0, _), (1, _), (2, _), (4, _)]) hx hb dX11_meantBy_132 rfl hl (by decide) rfl (fun ls hl => ?_)
                  refine lv_iinc (v := (_ : Int32) + 1) (lv' := [(4, _), (3, _), (5, _), (0, _), (1, _), (2, _)]) hx hb dX11_meantBy_133 hl (k := 5) rfl rfl (by decide) rfl (fun ls hl => ?_)
                  refine lv_goto (tgt := 41) hx hb dX11_meantBy_136 (by decide) ?_
                  rw [nI_1] at hl
                  exact ih (k + 1) _ (by omega) (by omega) (by rw [hv]; exact mb_s hhold (by first | exact Or.inl c_99 | exact Or.inr c_115))  _ (lv_sub hl [3, 4, 5, 1, 0] rfl)
                · refine lv_aload_n hx hb dX11_meantBy_102 rfl (lv_at hl 1 rfl) ?_
                  refine va_get (D := D) (ci := 11) (C := RX11) (T := TX11) (N := 37) hx hb hts in_X11 hown hK hP 0 rfl rfl 32 (by decide) fl_76 (fun _ h9 => h9) rfl dX11_meantBy_103 ?_
                  refine lv_iload hx hb dX11_meantBy_106 (lv_at hl 5 rfl) ?_
                  refine ald_n hx hb hK hP 7 0 rfl rfl (show k < 60 by omega) (by first | decide | omega) dX11_meantBy_108 ?_
                  refine lv_aload_n hx hb dX11_meantBy_109 rfl (lv_at hl 1 rfl) ?_
                  refine va_get (D := D) (ci := 11) (C := RX11) (T := TX11) (N := 37) hx hb hts in_X11 hown hK hP 0 rfl rfl 11 (by decide) fl_31 (fun _ h9 => h9) rfl dX11_meantBy_110 ?_
                  refine lv_iload_n hx hb dX11_meantBy_113 rfl (lv_at hl 3 rfl) ?_
                  refine ald_n hx hb hK hP 2 0 rfl rfl (show j < 40 by omega) (by first | decide | omega) dX11_meantBy_114 ?_
                  refine topi_eq (hrw j hj).2.2.2.2.2.2.1 ?_
                  refine lv_icmp_ne (tgt := 130) hx hb dX11_meantBy_115 (by decide) (fun c_115 => ?_) (fun c_115 => ?_)
                  · have hnot : ¬ ((mf k = -1 ∨ upB (nI fq) (mf k) = true) ∧ (mw k = nI j ∨ mw k = wz j 4)) := fun q => by first | exact hhold q.1 | exact q.2.elim c_99 c_115
                    refine lv_iconst (v := 0) hx hb dX11_meantBy_130 (by decide) ?_
                    refine lv_ior hx hb dX11_meantBy_131 ?_
                    refine lv_istore_n (lv' := [(3, _), (5, _), (0, _), (1, _), (2, _), (4, _)]) hx hb dX11_meantBy_132 rfl hl (by decide) rfl (fun ls hl => ?_)
                    refine lv_iinc (v := (_ : Int32) + 1) (lv' := [(4, _), (3, _), (5, _), (0, _), (1, _), (2, _)]) hx hb dX11_meantBy_133 hl (k := 5) rfl rfl (by decide) rfl (fun ls hl => ?_)
                    refine lv_goto (tgt := 41) hx hb dX11_meantBy_136 (by decide) ?_
                    rw [nI_1] at hl
                    exact ih (k + 1) _ (by omega) (by omega) (by rw [hv, Int32.or_zero]; rw [mb_n (fun q => hnot q)])  _ (lv_sub hl [3, 4, 5, 1, 0] rfl)
                  · refine lv_iconst (v := 1) hx hb dX11_meantBy_118 (by decide) ?_
                    refine lv_aload_n hx hb dX11_meantBy_119 rfl (lv_at hl 1 rfl) ?_
                    refine va_get (D := D) (ci := 11) (C := RX11) (T := TX11) (N := 37) hx hb hts in_X11 hown hK hP 0 rfl rfl 31 (by decide) fl_73 (fun _ h9 => h9) rfl dX11_meantBy_120 ?_
                    refine lv_iload hx hb dX11_meantBy_123 (lv_at hl 5 rfl) ?_
                    refine ald_n hx hb hK hP 6 0 rfl rfl (show k < 60 by omega) (by first | decide | omega) dX11_meantBy_125 ?_
                    refine lv_ishl hx hb dX11_meantBy_126 ?_
                    refine lv_goto (tgt := 131) hx hb dX11_meantBy_127 (by decide) ?_
                    refine lv_ior hx hb dX11_meantBy_131 ?_
                    refine lv_istore_n (lv' := [(3, _), (5, _), (0, _), (1, _), (2, _), (4, _)]) hx hb dX11_meantBy_132 rfl hl (by decide) rfl (fun ls hl => ?_)
                    refine lv_iinc (v := (_ : Int32) + 1) (lv' := [(4, _), (3, _), (5, _), (0, _), (1, _), (2, _)]) hx hb dX11_meantBy_133 hl (k := 5) rfl rfl (by decide) rfl (fun ls hl => ?_)
                    refine lv_goto (tgt := 41) hx hb dX11_meantBy_136 (by decide) ?_
                    rw [nI_1] at hl
                    exact ih (k + 1) _ (by omega) (by omega) (by rw [hv]; exact mb_s hhold (by first | exact Or.inl c_99 | exact Or.inr c_115))  _ (lv_sub hl [3, 4, 5, 1, 0] rfl)
      exact loop_41 (mm + 1) 0 _ (by omega) (Nat.zero_le _) (by show _ = _ ||| ((0 : Int32) ||| 0); rw [Int32.or_zero, Int32.or_zero])  ls (lv_sub hl [3, 4, 2, 1, 0] rfl)
  · refine lv_iconst (v := 0) hx hb dX11_meantBy_9 (by decide) ?_
    exact ro_iret X (by rw [tmI, RT_n c_6]) dX11_meantBy_10

set_option maxHeartbeats 1000000 in
set_option maxRecDepth 100000 in
theorem c_X11_meant {l : Launch} {D : va_G} {cI cJ cW : ClassId} {m : Nat} {a : Nat → Nat} {ct dn nw nj n tn tc mm : Nat} {τ : TS} {am pb : Int32} {F : Nat → Nat → Int32} {T : Nat → Nat → Int32} {xn : Nat} {wz : Nat → Nat → Int32} {wn : Nat → Nat} {wt : Nat → Nat → Int32} {fq : Nat} {mt mw mf : Nat → Int32} {y : Int32} (htn : tn ≤ 24) (hnw : nw ≤ 40) (hrt : RT F T tn nw xn) (hrw : RW F nw wz wn wt) (hmm : mm ≤ 60) (hfq : fq < 256) (hrm : RM mw mf mm) : RO l yX11_meant wsX11_meant { frames := 2, cells := 0, slots := 0, locals := 47 } D (ty3 cI cJ cW) [.ref m, .int y] [(m, .inr (11, [.int (nI ct), .ref (a 1), .ref (a 2), .int (nI dn), .int (nI nw), .int (nI nj), .ref (a 6), .ref (a 7), .ref (a 8), .ref (a 9), .ref (a 10), .ref (a 11), .ref (a 12), .ref (a 13), .ref (a 14), .ref (a 15), .int (nI n), .int (nI tn), .ref (a 18), .ref (a 19), .ref (a 20), .ref (a 21), .ref (a 22), .ref (a 23), .ref (a 24), .ref (a 25), .int (nI τ.1), .int (τ.2.1), .ref (a 28), .int (nI tc), .int (nI mm), .ref (a 31), .ref (a 32), .ref (a 33), .int (nI fq), .int (am), .int (pb)])), ((a 9), .inl (cI, 40, .inl (F 9))), ((a 11), .inl (cI, 40, .inl (F 11))), ((a 12), .inl (cI, 40, .inl (F 12))), ((a 18), .inl (cI, 24, .inl (F 18))), ((a 21), .inl (cI, 24, .inl (F 21))), ((a 31), .inl (cI, 60, .inl mt)), ((a 32), .inl (cI, 60, .inl mw)), ((a 33), .inl (cI, 60, .inl mf))] (.int (aMeant tn nw T wz mt mw mf (nI fq) mm y)) := by
  refine ro_of (cc := cX11_meant) (maxL := 2) (ret := (some .int)) (by decide) rfl (Nat.le_of_ble_eq_true rfl) ?_
  intro pr en ss mi below meth cd X hP hK ls hl
  obtain ⟨hx, hb, hml, hown, hts, hr, hlocks⟩ := id X
  have hl : lv_has ls 2 [(0, .ref m), (1, .int y)] := hl
  refine lv_aload_n hx hb dX11_meant_0 rfl (lv_at hl 0 rfl) ?_
  refine lv_iload_n hx hb dX11_meant_1 rfl (lv_at hl 1 rfl) ?_
  refine ro_V (n := 1) X hK (c_X11_isToken htn) gX11_meant_X11_isToken rfl (by decide +kernel) ⟨rfl, rfl⟩ ⟨Nat.le_of_ble_eq_true rfl, Nat.le_of_ble_eq_true rfl⟩ (hP.sub [0] rfl) (va_recv hK hP (ci := 11) (q0 := 0) rfl rfl) rfl hl.1 rfl (Nat.le_of_ble_eq_true rfl) dX11_meant_2 ⟨Nat.zero_le _, Nat.zero_le _⟩ ?_
  refine lv_if_eq (tgt := 16) hx hb dX11_meant_5 (by decide) (fun c_5 => ?_) (fun c_5 => ?_)
  · replace c_5 := bI_0.mp c_5
    refine lv_bipush (v := -2) hx hb dX11_meant_16 (by decide) ?_
    exact ro_iret X (by rw [aMeant, no_ix c_5]) dX11_meant_18
  · replace c_5 := bI_n0.mp c_5
    obtain ⟨i, hi, rfl⟩ := is_ix c_5 (show tn < 2 ^ 31 by omega)
    refine lv_aload_n hx hb dX11_meant_8 rfl (lv_at hl 0 rfl) ?_
    refine lv_iload_n hx hb dX11_meant_9 rfl (lv_at hl 1 rfl) ?_
    refine ro_V (n := 1) X hK (c_X11_meantBy htn hnw hrt hrw hmm hfq hrm hi) gX11_meant_X11_meantBy rfl (by decide +kernel) ⟨rfl, rfl⟩ ⟨Nat.le_of_ble_eq_true rfl, Nat.le_of_ble_eq_true rfl⟩ (hP.sub [0, 1, 2, 3, 4, 5, 6, 7, 8] rfl) (va_recv hK hP (ci := 11) (q0 := 0) rfl rfl) rfl hl.1 rfl (Nat.le_of_ble_eq_true rfl) dX11_meant_10 ⟨Nat.zero_le _, Nat.zero_le _⟩ ?_
    refine lv_goto (tgt := 18) hx hb dX11_meant_13 (by decide) ?_
    exact ro_iret X (by rw [aMeant, ixO_nI hi (by omega)]) dX11_meant_18

set_option maxHeartbeats 1000000 in
set_option maxRecDepth 100000 in
theorem c_X11_phraseAt {l : Launch} {D : va_G} {cI cJ cW : ClassId} {sz : Nat} {m : Nat} {a : Nat → Nat} {ct dn nw nj n tn tc mm : Nat} {τ : TS} {am pb : Int32} {F : Nat → Nat → Int32} {T : Nat → Nat → Int32} {xn : Nat} {wz : Nat → Nat → Int32} {wn : Nat → Nat} {wt : Nat → Nat → Int32} {fq : Nat} {mt mw mf : Nat → Int32} {i : Nat} (htn : tn ≤ 24) (hnw : nw ≤ 40) (hrt : RT F T tn nw xn) (hrw : RW F nw wz wn wt) (hmm : mm ≤ 60) (hfq : fq < 256) (hrm : RM mw mf mm) (hi : i < tn) : MU l yX11_phraseAt wsX11_phraseAt { frames := 2, cells := 0, slots := 0, locals := 47 } D (ty3 cI cJ cW) [.ref m, .int (nI i)] [(m, .inr (11, [.int (nI ct), .ref (a 1), .ref (a 2), .int (nI dn), .int (nI nw), .int (nI nj), .ref (a 6), .ref (a 7), .ref (a 8), .ref (a 9), .ref (a 10), .ref (a 11), .ref (a 12), .ref (a 13), .ref (a 14), .ref (a 15), .int (nI n), .int (nI tn), .ref (a 18), .ref (a 19), .ref (a 20), .ref (a 21), .ref (a 22), .ref (a 23), .ref (a 24), .ref (a 25), .int (nI τ.1), .int (τ.2.1), .ref (a 28), .int (nI tc), .int (nI mm), .ref (a 31), .ref (a 32), .ref (a 33), .int (nI fq), .int (am), .int (pb)])), ((a 9), .inl (cI, 40, .inl (F 9))), ((a 11), .inl (cI, 40, .inl (F 11))), ((a 12), .inl (cI, 40, .inl (F 12))), ((a 18), .inl (cI, 24, .inl (F 18))), ((a 21), .inl (cI, 24, .inl (F 21))), ((a 31), .inl (cI, 60, .inl mt)), ((a 32), .inl (cI, 60, .inl mw)), ((a 33), .inl (cI, 60, .inl mf))] sz (some (.int (phF T tn nw wz (tmI T nw wz mt mw mf (nI fq) mm) (tn - i) i (0, 0)).2)) [(m, .inr (11, [.int (nI ct), .ref (a 1), .ref (a 2), .int (nI dn), .int (nI nw), .int (nI nj), .ref (a 6), .ref (a 7), .ref (a 8), .ref (a 9), .ref (a 10), .ref (a 11), .ref (a 12), .ref (a 13), .ref (a 14), .ref (a 15), .int (nI n), .int (nI tn), .ref (a 18), .ref (a 19), .ref (a 20), .ref (a 21), .ref (a 22), .ref (a 23), .ref (a 24), .ref (a 25), .int (nI τ.1), .int (τ.2.1), .ref (a 28), .int (nI tc), .int (nI mm), .ref (a 31), .ref (a 32), .ref (a 33), .int (nI fq), .int (am), .int ((phF T tn nw wz (tmI T nw wz mt mw mf (nI fq) mm) (tn - i) i (0, 0)).1)])), ((a 9), .inl (cI, 40, .inl (F 9))), ((a 11), .inl (cI, 40, .inl (F 11))), ((a 12), .inl (cI, 40, .inl (F 12))), ((a 18), .inl (cI, 24, .inl (F 18))), ((a 21), .inl (cI, 24, .inl (F 21))), ((a 31), .inl (cI, 60, .inl mt)), ((a 32), .inl (cI, 60, .inl mw)), ((a 33), .inl (cI, 60, .inl mf))] := by
  refine mu_of (cc := cX11_phraseAt) (maxL := 4) (ret := (some .int)) (by decide) rfl (Nat.le_of_ble_eq_true rfl) ?_
  intro pr en ss mi below meth cd X hK A hA hP hD hS ls hl
  obtain ⟨hx, hb, hml, hown, hts, hr, hlocks⟩ := id X
  have fl_170 := hts (.fieldLink RX11 170 "WordTablesModel" "tokens" "I") (by decide +kernel)
  have fl_197 := hts (.fieldLink RX11 197 "WordTablesModel" "phraseBits" "I") (by decide +kernel)
  have fl_25 := hts (.fieldLink RX11 25 "WordTablesModel" "kinds" "[I") (by decide +kernel)
  have fl_46 := hts (.fieldLink RX11 46 "WordTablesModel" "sort" "[I") (by decide +kernel)
  have fl_55 := hts (.fieldLink RX11 55 "WordTablesModel" "number" "[I") (by decide +kernel)
  have in_X11 : ∀ w ∈ wsX110, w ∈ wsX11_phraseAt := by decide +kernel
  have hl : lv_has ls 4 [(0, .ref m), (1, .int (nI i))] := hl
  refine lv_aload_n hx hb dX11_phraseAt_0 rfl (lv_at hl 0 rfl) ?_
  refine lv_iconst (v := 0) hx hb dX11_phraseAt_1 (by decide) ?_
  refine va_put (D := D) (ci := 11) (ty := .int) (C := RX11) (T := TX11) (N := 37) hx hb hts in_X11 tyX11 tyX11_ok nmX11 hown hK hP hD hS 0 rfl rfl 36 (by decide) fl_197 (fun _ h9 => h9) rfl (by decide +kernel) rfl rfl (Nat.le_of_ble_eq_true rfl) dX11_phraseAt_2 (fun H locs hP hD hS => ?_)
  have hP : va_P D vwCl [(m, .inr (11, [_, .ref (a 1), .ref (a 2), _, _, _, .ref (a 6), .ref (a 7), .ref (a 8), .ref (a 9), .ref (a 10), .ref (a 11), .ref (a 12), .ref (a 13), .ref (a 14), .ref (a 15), _, _, .ref (a 18), .ref (a 19), .ref (a 20), .ref (a 21), .ref (a 22), .ref (a 23), .ref (a 24), .ref (a 25), _, _, .ref (a 28), _, _, .ref (a 31), .ref (a 32), .ref (a 33), _, _, _])), ((a 9), .inl (cI, 40, .inl _)), ((a 11), .inl (cI, 40, .inl _)), ((a 12), .inl (cI, 40, .inl _)), ((a 18), .inl (cI, 24, .inl _)), ((a 21), .inl (cI, 24, .inl _)), ((a 31), .inl (cI, 60, .inl _)), ((a 32), .inl (cI, 60, .inl _)), ((a 33), .inl (cI, 60, .inl _))] H := hP
  have hD : va_D A [(m, .inr (11, [_, .ref (a 1), .ref (a 2), _, _, _, .ref (a 6), .ref (a 7), .ref (a 8), .ref (a 9), .ref (a 10), .ref (a 11), .ref (a 12), .ref (a 13), .ref (a 14), .ref (a 15), _, _, .ref (a 18), .ref (a 19), .ref (a 20), .ref (a 21), .ref (a 22), .ref (a 23), .ref (a 24), .ref (a 25), _, _, .ref (a 28), _, _, .ref (a 31), .ref (a 32), .ref (a 33), _, _, _])), ((a 9), .inl (cI, 40, .inl _)), ((a 11), .inl (cI, 40, .inl _)), ((a 12), .inl (cI, 40, .inl _)), ((a 18), .inl (cI, 24, .inl _)), ((a 21), .inl (cI, 24, .inl _)), ((a 31), .inl (cI, 60, .inl _)), ((a 32), .inl (cI, 60, .inl _)), ((a 33), .inl (cI, 60, .inl _))] := hD
  refine lv_iconst (v := -1) hx hb dX11_phraseAt_5 (by decide) ?_
  refine lv_istore_n (lv' := [(2, _), (0, _), (1, _)]) hx hb dX11_phraseAt_6 rfl hl (by decide) rfl (fun ls hl => ?_)
  refine lv_iload_n hx hb dX11_phraseAt_7 rfl (lv_at hl 2 rfl) ?_
  refine lv_istore_n (lv' := [(3, _), (2, _), (0, _), (1, _)]) hx hb dX11_phraseAt_8 rfl hl (by decide) rfl (fun ls hl => ?_)
  have loop_9 : ∀ (fuel : Nat) (k : Nat) (sh : Int32), tn - k < fuel → i ≤ k → k ≤ tn → (phF T tn nw wz (tmI T nw wz mt mw mf (nI fq) mm) (tn - k) k (sh, nI (k - i)) = phF T tn nw wz (tmI T nw wz mt mw mf (nI fq) mm) (tn - i) i (0, 0)) → ∀ (H : Heap) (locs : List Loc), va_P D vwCl [(m, .inr (11, [.int (nI ct), .ref (a 1), .ref (a 2), .int (nI dn), .int (nI nw), .int (nI nj), .ref (a 6), .ref (a 7), .ref (a 8), .ref (a 9), .ref (a 10), .ref (a 11), .ref (a 12), .ref (a 13), .ref (a 14), .ref (a 15), .int (nI n), .int (nI tn), .ref (a 18), .ref (a 19), .ref (a 20), .ref (a 21), .ref (a 22), .ref (a 23), .ref (a 24), .ref (a 25), .int (nI τ.1), .int (τ.2.1), .ref (a 28), .int (nI tc), .int (nI mm), .ref (a 31), .ref (a 32), .ref (a 33), .int (nI fq), .int (am), .int (sh)])), ((a 9), .inl (cI, 40, .inl (F 9))), ((a 11), .inl (cI, 40, .inl (F 11))), ((a 12), .inl (cI, 40, .inl (F 12))), ((a 18), .inl (cI, 24, .inl (F 18))), ((a 21), .inl (cI, 24, .inl (F 21))), ((a 31), .inl (cI, 60, .inl mt)), ((a 32), .inl (cI, 60, .inl mw)), ((a 33), .inl (cI, 60, .inl mf))] H → va_D A [(m, .inr (11, [.int (nI ct), .ref (a 1), .ref (a 2), .int (nI dn), .int (nI nw), .int (nI nj), .ref (a 6), .ref (a 7), .ref (a 8), .ref (a 9), .ref (a 10), .ref (a 11), .ref (a 12), .ref (a 13), .ref (a 14), .ref (a 15), .int (nI n), .int (nI tn), .ref (a 18), .ref (a 19), .ref (a 20), .ref (a 21), .ref (a 22), .ref (a 23), .ref (a 24), .ref (a 25), .int (nI τ.1), .int (τ.2.1), .ref (a 28), .int (nI tc), .int (nI mm), .ref (a 31), .ref (a 32), .ref (a 33), .int (nI fq), .int (am), .int (sh)])), ((a 9), .inl (cI, 40, .inl (F 9))), ((a 11), .inl (cI, 40, .inl (F 11))), ((a 12), .inl (cI, 40, .inl (F 12))), ((a 18), .inl (cI, 24, .inl (F 18))), ((a 21), .inl (cI, 24, .inl (F 21))), ((a 31), .inl (cI, 60, .inl mt)), ((a 32), .inl (cI, 60, .inl mw)), ((a 33), .inl (cI, 60, .inl mf))] → va_S A ss.heap H locs → ∀ ls : Array Slot, lv_has ls 4 [(0, .ref m), (1, .int (nI i)), (2, .int (if k = i then -1 else sh)), (3, .int (nI k))] → W pr l en { frames := 2, cells := 0, slots := 0, locals := 47 } ss mi ([.ref m, .int (nI i)] : List Value).toArray below meth cd H locs 0 0 (MQ below (mQ (some (.int (phF T tn nw wz (tmI T nw wz mt mw mf (nI fq) mm) (tn - i) i (0, 0)).2)) D [(m, .inr (11, [.int (nI ct), .ref (a 1), .ref (a 2), .int (nI dn), .int (nI nw), .int (nI nj), .ref (a 6), .ref (a 7), .ref (a 8), .ref (a 9), .ref (a 10), .ref (a 11), .ref (a 12), .ref (a 13), .ref (a 14), .ref (a 15), .int (nI n), .int (nI tn), .ref (a 18), .ref (a 19), .ref (a 20), .ref (a 21), .ref (a 22), .ref (a 23), .ref (a 24), .ref (a 25), .int (nI τ.1), .int (τ.2.1), .ref (a 28), .int (nI tc), .int (nI mm), .ref (a 31), .ref (a 32), .ref (a 33), .int (nI fq), .int (am), .int ((phF T tn nw wz (tmI T nw wz mt mw mf (nI fq) mm) (tn - i) i (0, 0)).1)])), ((a 9), .inl (cI, 40, .inl (F 9))), ((a 11), .inl (cI, 40, .inl (F 11))), ((a 12), .inl (cI, 40, .inl (F 12))), ((a 18), .inl (cI, 24, .inl (F 18))), ((a 21), .inl (cI, 24, .inl (F 21))), ((a 31), .inl (cI, 60, .inl mt)), ((a 32), .inl (cI, 60, .inl mw)), ((a 33), .inl (cI, 60, .inl mf))] A) ([.ref m, .int (nI i)] : List Value).toArray ss 0 0 A) (F0 mi 9 ls []) := by
    intro fuel
    induction fuel with
    | zero => intro k sh hm; exact absurd hm (Nat.not_lt_zero _)
    | succ fuel ih =>
      intro k sh hm hik hkt hr H locs hP hD hS ls hl
      refine lv_iload_n hx hb dX11_phraseAt_9 rfl (lv_at hl 3 rfl) ?_
      refine lv_aload_n hx hb dX11_phraseAt_10 rfl (lv_at hl 0 rfl) ?_
      refine va_get (D := D) (ci := 11) (C := RX11) (T := TX11) (N := 37) hx hb hts in_X11 hown hK hP 0 rfl rfl 17 (by decide) fl_170 (fun _ h9 => h9) rfl dX11_phraseAt_11 ?_
      refine lv_icmp_ge (tgt := 72) hx hb dX11_phraseAt_14 (by decide) (fun c_14 => ?_) (fun c_14 => ?_)
      · have hfin : (sh, nI (k - i)) = phF T tn nw wz (tmI T nw wz mt mw mf (nI fq) mm) (tn - i) i (0, 0) := by
          rw [← hr, show tn - k = 0 by have := leL (a := tn) (b := k) c_14; omega]; rfl
        refine lv_iload_n hx hb dX11_phraseAt_72 rfl (lv_at hl 3 rfl) ?_
        refine lv_iload_n hx hb dX11_phraseAt_73 rfl (lv_at hl 1 rfl) ?_
        refine lv_isub hx hb dX11_phraseAt_74 ?_
        refine topi_eq (nI_sub1 (by omega)) ?_
        exact mu_iret X hP hS (by rw [← hfin]) (by rw [← hfin]) dX11_phraseAt_75
      · have hlt : k < tn := lt_nge c_14 hkt (by omega)
        have hne : ¬ k = i → ¬ nI (k - i) = 0 := fun h q => by have := (nI_eq (a := k - i) (b := 0) (by omega) (by decide)).mp q; omega
        refine lv_aload_n hx hb dX11_phraseAt_17 rfl (lv_at hl 0 rfl) ?_
        refine va_get (D := D) (ci := 11) (C := RX11) (T := TX11) (N := 37) hx hb hts in_X11 hown hK hP 0 rfl rfl 18 (by decide) fl_46 (fun _ h9 => h9) rfl dX11_phraseAt_18 ?_
        refine lv_iload_n hx hb dX11_phraseAt_21 rfl (lv_at hl 3 rfl) ?_
        refine ald_n hx hb hK hP 4 0 rfl rfl (show k < 24 by omega) (by first | decide | omega) dX11_phraseAt_22 ?_
        refine topi_eq (hrt k hlt).1 ?_
        refine lv_if_ne (tgt := 72) hx hb dX11_phraseAt_23 (by decide) (fun c_23 => ?_) (fun c_23 => ?_)
        · have hfin : (sh, nI (k - i)) = phF T tn nw wz (tmI T nw wz mt mw mf (nI fq) mm) (tn - i) i (0, 0) := by
            rw [← hr, phF_none hlt (RT_n c_23)]
          refine lv_iload_n hx hb dX11_phraseAt_72 rfl (lv_at hl 3 rfl) ?_
          refine lv_iload_n hx hb dX11_phraseAt_73 rfl (lv_at hl 1 rfl) ?_
          refine lv_isub hx hb dX11_phraseAt_74 ?_
          refine topi_eq (nI_sub1 (by omega)) ?_
          exact mu_iret X hP hS (by rw [← hfin]) (by rw [← hfin]) dX11_phraseAt_75
        · obtain ⟨j, hj, e4, etw⟩ := RT_w hrt hlt hnw c_23
          refine lv_aload_n hx hb dX11_phraseAt_26 rfl (lv_at hl 0 rfl) ?_
          refine va_get (D := D) (ci := 11) (C := RX11) (T := TX11) (N := 37) hx hb hts in_X11 hown hK hP 0 rfl rfl 9 (by decide) fl_25 (fun _ h9 => h9) rfl dX11_phraseAt_27 ?_
          refine lv_aload_n hx hb dX11_phraseAt_30 rfl (lv_at hl 0 rfl) ?_
          refine va_get (D := D) (ci := 11) (C := RX11) (T := TX11) (N := 37) hx hb hts in_X11 hown hK hP 0 rfl rfl 21 (by decide) fl_55 (fun _ h9 => h9) rfl dX11_phraseAt_31 ?_
          refine lv_iload_n hx hb dX11_phraseAt_34 rfl (lv_at hl 3 rfl) ?_
          refine ald_n hx hb hK hP 5 0 rfl rfl (show k < 24 by omega) (by first | decide | omega) dX11_phraseAt_35 ?_
          refine topi_eq ((hrt k hlt).2.2.2.1.trans e4) ?_
          refine ald_n hx hb hK hP 1 0 rfl rfl (show j < 40 by omega) (by first | decide | omega) dX11_phraseAt_36 ?_
          refine topi_eq (hrw j hj).2.2.2.2.1 ?_
          refine lv_bipush (v := 22) hx hb dX11_phraseAt_37 (by decide) ?_
          refine lv_iand hx hb dX11_phraseAt_39 ?_
          refine lv_if_eq (tgt := 72) hx hb dX11_phraseAt_40 (by decide) (fun c_40 => ?_) (fun c_40 => ?_)
          · have hfin : (sh, nI (k - i)) = phF T tn nw wz (tmI T nw wz mt mw mf (nI fq) mm) (tn - i) i (0, 0) := by
              rw [← hr, phF_nk hlt etw c_40]
            refine lv_iload_n hx hb dX11_phraseAt_72 rfl (lv_at hl 3 rfl) ?_
            refine lv_iload_n hx hb dX11_phraseAt_73 rfl (lv_at hl 1 rfl) ?_
            refine lv_isub hx hb dX11_phraseAt_74 ?_
            refine topi_eq (nI_sub1 (by omega)) ?_
            exact mu_iret X hP hS (by rw [← hfin]) (by rw [← hfin]) dX11_phraseAt_75
          · refine lv_iload_n hx hb dX11_phraseAt_43 rfl (lv_at hl 2 rfl) ?_
            refine lv_aload_n hx hb dX11_phraseAt_44 rfl (lv_at hl 0 rfl) ?_
            refine lv_iload_n hx hb dX11_phraseAt_45 rfl (lv_at hl 3 rfl) ?_
            refine ro_V (n := 1) X hK (c_X11_meantBy htn hnw hrt hrw hmm hfq hrm hlt) gX11_phraseAt_X11_meantBy rfl (by decide +kernel) ⟨rfl, rfl⟩ ⟨Nat.le_of_ble_eq_true rfl, Nat.le_of_ble_eq_true rfl⟩ (hP.sub [0, 1, 2, 3, 4, 5, 6, 7, 8] rfl) (va_recv hK hP (ci := 11) (q0 := 0) rfl rfl) rfl hl.1 rfl (Nat.le_of_ble_eq_true rfl) dX11_phraseAt_46 ⟨Nat.zero_le _, Nat.zero_le _⟩ ?_
            refine lv_iand hx hb dX11_phraseAt_49 ?_
            refine lv_if_eq (tgt := 72) hx hb dX11_phraseAt_50 (by decide) (fun c_50 => ?_) (fun c_50 => ?_)
            · have hfin : (sh, nI (k - i)) = phF T tn nw wz (tmI T nw wz mt mw mf (nI fq) mm) (tn - i) i (0, 0) := by
                rw [← hr]
                by_cases hki : k = i
                · rw [if_pos hki, m1_and] at c_50
                  have hc : coA sh (nI (k - i)) (tmI T nw wz mt mw mf (nI fq) mm k) = (false, sh, nI (k - i)) := by rw [coA, if_pos (by rw [hki, Nat.sub_self]; rfl), if_pos c_50]
                  rw [phF_no hlt etw c_40 (by rw [hc]), hc]
                · rw [if_neg hki] at c_50
                  have hc : coA sh (nI (k - i)) (tmI T nw wz mt mw mf (nI fq) mm k) = (false, sh, nI (k - i)) := by rw [coA, if_neg (hne hki), if_pos c_50]
                  rw [phF_no hlt etw c_40 (by rw [hc]), hc]
              refine lv_iload_n hx hb dX11_phraseAt_72 rfl (lv_at hl 3 rfl) ?_
              refine lv_iload_n hx hb dX11_phraseAt_73 rfl (lv_at hl 1 rfl) ?_
              refine lv_isub hx hb dX11_phraseAt_74 ?_
              refine topi_eq (nI_sub1 (by omega)) ?_
              exact mu_iret X hP hS (by rw [← hfin]) (by rw [← hfin]) dX11_phraseAt_75
            · refine lv_iload_n hx hb dX11_phraseAt_53 rfl (lv_at hl 2 rfl) ?_
              refine lv_aload_n hx hb dX11_phraseAt_54 rfl (lv_at hl 0 rfl) ?_
              refine lv_iload_n hx hb dX11_phraseAt_55 rfl (lv_at hl 3 rfl) ?_
              refine ro_V (n := 1) X hK (c_X11_meantBy htn hnw hrt hrw hmm hfq hrm hlt) gX11_phraseAt_X11_meantBy rfl (by decide +kernel) ⟨rfl, rfl⟩ ⟨Nat.le_of_ble_eq_true rfl, Nat.le_of_ble_eq_true rfl⟩ (hP.sub [0, 1, 2, 3, 4, 5, 6, 7, 8] rfl) (va_recv hK hP (ci := 11) (q0 := 0) rfl rfl) rfl hl.1 rfl (Nat.le_of_ble_eq_true rfl) dX11_phraseAt_56 ⟨Nat.zero_le _, Nat.zero_le _⟩ ?_
              refine lv_iand hx hb dX11_phraseAt_59 ?_
              refine lv_istore_n (lv' := [(2, _), (0, _), (1, _), (3, _)]) hx hb dX11_phraseAt_60 rfl hl (by decide) rfl (fun ls hl => ?_)
              have hgo : coA sh (nI (k - i)) (tmI T nw wz mt mw mf (nI fq) mm k) = (true, (if k = i then -1 else sh) &&& tmI T nw wz mt mw mf (nI fq) mm k, nI (k - i) + 1) := by
                by_cases hki : k = i
                · rw [if_pos hki, m1_and] at c_50 ⊢; rw [coA, if_pos (by rw [hki, Nat.sub_self]; rfl), if_neg c_50]
                · rw [if_neg hki] at c_50 ⊢; rw [coA, if_neg (hne hki), if_neg c_50]
              refine lv_aload_n hx hb dX11_phraseAt_61 rfl (lv_at hl 1 rfl) ?_
              refine lv_iload_n hx hb dX11_phraseAt_62 rfl (lv_at hl 0 rfl) ?_
              refine va_put (D := D) (ci := 11) (ty := .int) (C := RX11) (T := TX11) (N := 37) hx hb hts in_X11 tyX11 tyX11_ok nmX11 hown hK hP hD hS 0 rfl rfl 36 (by decide) fl_197 (fun _ h9 => h9) rfl (by decide +kernel) rfl rfl (Nat.le_of_ble_eq_true rfl) dX11_phraseAt_63 (fun H locs hP hD hS => ?_)
              have hP : va_P D vwCl [(m, .inr (11, [_, .ref (a 1), .ref (a 2), _, _, _, .ref (a 6), .ref (a 7), .ref (a 8), .ref (a 9), .ref (a 10), .ref (a 11), .ref (a 12), .ref (a 13), .ref (a 14), .ref (a 15), _, _, .ref (a 18), .ref (a 19), .ref (a 20), .ref (a 21), .ref (a 22), .ref (a 23), .ref (a 24), .ref (a 25), _, _, .ref (a 28), _, _, .ref (a 31), .ref (a 32), .ref (a 33), _, _, _])), ((a 9), .inl (cI, 40, .inl _)), ((a 11), .inl (cI, 40, .inl _)), ((a 12), .inl (cI, 40, .inl _)), ((a 18), .inl (cI, 24, .inl _)), ((a 21), .inl (cI, 24, .inl _)), ((a 31), .inl (cI, 60, .inl _)), ((a 32), .inl (cI, 60, .inl _)), ((a 33), .inl (cI, 60, .inl _))] H := hP
              have hD : va_D A [(m, .inr (11, [_, .ref (a 1), .ref (a 2), _, _, _, .ref (a 6), .ref (a 7), .ref (a 8), .ref (a 9), .ref (a 10), .ref (a 11), .ref (a 12), .ref (a 13), .ref (a 14), .ref (a 15), _, _, .ref (a 18), .ref (a 19), .ref (a 20), .ref (a 21), .ref (a 22), .ref (a 23), .ref (a 24), .ref (a 25), _, _, .ref (a 28), _, _, .ref (a 31), .ref (a 32), .ref (a 33), _, _, _])), ((a 9), .inl (cI, 40, .inl _)), ((a 11), .inl (cI, 40, .inl _)), ((a 12), .inl (cI, 40, .inl _)), ((a 18), .inl (cI, 24, .inl _)), ((a 21), .inl (cI, 24, .inl _)), ((a 31), .inl (cI, 60, .inl _)), ((a 32), .inl (cI, 60, .inl _)), ((a 33), .inl (cI, 60, .inl _))] := hD
              refine lv_iinc (v := (_ : Int32) + 1) (lv' := [(3, _), (2, _), (0, _), (1, _)]) hx hb dX11_phraseAt_66 hl (k := 3) rfl rfl (by decide) rfl (fun ls hl => ?_)
              refine lv_goto (tgt := 9) hx hb dX11_phraseAt_69 (by decide) ?_
              rw [nI_1] at hl
              rw [show ((if k = i then -1 else sh) &&& tmI T nw wz mt mw mf (nI fq) mm k) = if k + 1 = i then -1 else ((if k = i then -1 else sh) &&& tmI T nw wz mt mw mf (nI fq) mm k) from (if_neg (by omega)).symm] at hl
              exact ih (k + 1) ((if k = i then -1 else sh) &&& tmI T nw wz mt mw mf (nI fq) mm k) (by omega) (by omega) (by omega) (by rw [← hr, phF_go hlt etw c_40 (by rw [hgo]), hgo, show k + 1 - i = k - i + 1 by omega, ← nI_1]) _ _ hP hD hS _ (lv_sub hl [2, 3, 1, 0] rfl)
  rw [show (-1 : Int32) = if i = i then -1 else 0 from (if_pos rfl).symm] at hl
  exact loop_9 (tn + 1) i 0 (by omega) (Nat.le_refl _) (by omega) (by rw [Nat.sub_self]; rfl) _ _ hP hD hS ls (lv_sub hl [2, 3, 1, 0] rfl)

set_option maxHeartbeats 1000000 in
set_option maxRecDepth 100000 in
theorem c_X11_phrase {l : Launch} {D : va_G} {cI cJ cW : ClassId} {sz : Nat} {m : Nat} {a : Nat → Nat} {ct dn nw nj n tn tc mm : Nat} {τ : TS} {am pb : Int32} {F : Nat → Nat → Int32} {T : Nat → Nat → Int32} {xn : Nat} {wz : Nat → Nat → Int32} {wn : Nat → Nat} {wt : Nat → Nat → Int32} {fq : Nat} {mt mw mf : Nat → Int32} {y : Int32} (htn : tn ≤ 24) (hnw : nw ≤ 40) (hrt : RT F T tn nw xn) (hrw : RW F nw wz wn wt) (hmm : mm ≤ 60) (hfq : fq < 256) (hrm : RM mw mf mm) : MU l yX11_phrase wsX11_phrase { frames := 3, cells := 0, slots := 0, locals := 70 } D (ty3 cI cJ cW) [.ref m, .int y] [(m, .inr (11, [.int (nI ct), .ref (a 1), .ref (a 2), .int (nI dn), .int (nI nw), .int (nI nj), .ref (a 6), .ref (a 7), .ref (a 8), .ref (a 9), .ref (a 10), .ref (a 11), .ref (a 12), .ref (a 13), .ref (a 14), .ref (a 15), .int (nI n), .int (nI tn), .ref (a 18), .ref (a 19), .ref (a 20), .ref (a 21), .ref (a 22), .ref (a 23), .ref (a 24), .ref (a 25), .int (nI τ.1), .int (τ.2.1), .ref (a 28), .int (nI tc), .int (nI mm), .ref (a 31), .ref (a 32), .ref (a 33), .int (nI fq), .int (am), .int (pb)])), ((a 9), .inl (cI, 40, .inl (F 9))), ((a 11), .inl (cI, 40, .inl (F 11))), ((a 12), .inl (cI, 40, .inl (F 12))), ((a 18), .inl (cI, 24, .inl (F 18))), ((a 21), .inl (cI, 24, .inl (F 21))), ((a 31), .inl (cI, 60, .inl mt)), ((a 32), .inl (cI, 60, .inl mw)), ((a 33), .inl (cI, 60, .inl mf))] sz (some (.int (aPhrase T tn nw wz (tmI T nw wz mt mw mf (nI fq) mm) y))) [(m, .inr (11, [.int (nI ct), .ref (a 1), .ref (a 2), .int (nI dn), .int (nI nw), .int (nI nj), .ref (a 6), .ref (a 7), .ref (a 8), .ref (a 9), .ref (a 10), .ref (a 11), .ref (a 12), .ref (a 13), .ref (a 14), .ref (a 15), .int (nI n), .int (nI tn), .ref (a 18), .ref (a 19), .ref (a 20), .ref (a 21), .ref (a 22), .ref (a 23), .ref (a 24), .ref (a 25), .int (nI τ.1), .int (τ.2.1), .ref (a 28), .int (nI tc), .int (nI mm), .ref (a 31), .ref (a 32), .ref (a 33), .int (nI fq), .int (am), .int ((match ixO tn y with | none => pb | some i => (phF T tn nw wz (tmI T nw wz mt mw mf (nI fq) mm) (tn - i) i (0, 0)).1))])), ((a 9), .inl (cI, 40, .inl (F 9))), ((a 11), .inl (cI, 40, .inl (F 11))), ((a 12), .inl (cI, 40, .inl (F 12))), ((a 18), .inl (cI, 24, .inl (F 18))), ((a 21), .inl (cI, 24, .inl (F 21))), ((a 31), .inl (cI, 60, .inl mt)), ((a 32), .inl (cI, 60, .inl mw)), ((a 33), .inl (cI, 60, .inl mf))] := by
  refine mu_of (cc := cX11_phrase) (maxL := 2) (ret := (some .int)) (by decide) rfl (Nat.le_of_ble_eq_true rfl) ?_
  intro pr en ss mi below meth cd X hK A hA hP hD hS ls hl
  obtain ⟨hx, hb, hml, hown, hts, hr, hlocks⟩ := id X
  have fl_197 := hts (.fieldLink RX11 197 "WordTablesModel" "phraseBits" "I") (by decide +kernel)
  have in_X11 : ∀ w ∈ wsX110, w ∈ wsX11_phrase := by decide +kernel
  have hl : lv_has ls 2 [(0, .ref m), (1, .int y)] := hl
  refine lv_aload_n hx hb dX11_phrase_0 rfl (lv_at hl 0 rfl) ?_
  refine lv_iload_n hx hb dX11_phrase_1 rfl (lv_at hl 1 rfl) ?_
  refine ro_V (n := 1) X hK (c_X11_isToken htn) gX11_phrase_X11_isToken rfl (by decide +kernel) ⟨rfl, rfl⟩ ⟨Nat.le_of_ble_eq_true rfl, Nat.le_of_ble_eq_true rfl⟩ (hP.sub [0] rfl) (va_recv hK hP (ci := 11) (q0 := 0) rfl rfl) rfl hl.1 rfl (Nat.le_of_ble_eq_true rfl) dX11_phrase_2 ⟨Nat.zero_le _, Nat.zero_le _⟩ ?_
  refine lv_if_ne (tgt := 11) hx hb dX11_phrase_5 (by decide) (fun c_5 => ?_) (fun c_5 => ?_)
  · replace c_5 := bI_n0.mp c_5
    obtain ⟨i, hi, rfl⟩ := is_ix c_5 (show tn < 2 ^ 31 by omega)
    refine lv_aload_n hx hb dX11_phrase_11 rfl (lv_at hl 0 rfl) ?_
    refine lv_iload_n hx hb dX11_phrase_12 rfl (lv_at hl 1 rfl) ?_
    refine mu_V (n := 1) X hK (c_X11_phraseAt (T := T) htn hnw hrt hrw hmm hfq hrm hi) gX11_phrase_X11_phraseAt rfl (by decide +kernel) ⟨rfl, rfl⟩ ⟨Nat.le_of_ble_eq_true rfl, Nat.le_of_ble_eq_true rfl⟩ [0, 1, 2, 3, 4, 5, 6, 7, 8] rfl rfl rfl rfl hA hP hD hS (va_recv hK hP (ci := 11) (q0 := 0) rfl rfl) rfl hl.1 rfl (Nat.le_of_ble_eq_true rfl) dX11_phrase_13 ⟨Nat.zero_le _, Nat.zero_le _⟩ (fun H locs hP hD hS => ?_)
    have hP : va_P D vwCl [(m, .inr (11, [_, .ref (a 1), .ref (a 2), _, _, _, .ref (a 6), .ref (a 7), .ref (a 8), .ref (a 9), .ref (a 10), .ref (a 11), .ref (a 12), .ref (a 13), .ref (a 14), .ref (a 15), _, _, .ref (a 18), .ref (a 19), .ref (a 20), .ref (a 21), .ref (a 22), .ref (a 23), .ref (a 24), .ref (a 25), _, _, .ref (a 28), _, _, .ref (a 31), .ref (a 32), .ref (a 33), _, _, _])), ((a 9), .inl (cI, 40, .inl _)), ((a 11), .inl (cI, 40, .inl _)), ((a 12), .inl (cI, 40, .inl _)), ((a 18), .inl (cI, 24, .inl _)), ((a 21), .inl (cI, 24, .inl _)), ((a 31), .inl (cI, 60, .inl _)), ((a 32), .inl (cI, 60, .inl _)), ((a 33), .inl (cI, 60, .inl _))] H := hP
    have hD : va_D A [(m, .inr (11, [_, .ref (a 1), .ref (a 2), _, _, _, .ref (a 6), .ref (a 7), .ref (a 8), .ref (a 9), .ref (a 10), .ref (a 11), .ref (a 12), .ref (a 13), .ref (a 14), .ref (a 15), _, _, .ref (a 18), .ref (a 19), .ref (a 20), .ref (a 21), .ref (a 22), .ref (a 23), .ref (a 24), .ref (a 25), _, _, .ref (a 28), _, _, .ref (a 31), .ref (a 32), .ref (a 33), _, _, _])), ((a 9), .inl (cI, 40, .inl _)), ((a 11), .inl (cI, 40, .inl _)), ((a 12), .inl (cI, 40, .inl _)), ((a 18), .inl (cI, 24, .inl _)), ((a 21), .inl (cI, 24, .inl _)), ((a 31), .inl (cI, 60, .inl _)), ((a 32), .inl (cI, 60, .inl _)), ((a 33), .inl (cI, 60, .inl _))] := hD
    refine lv_pop hx hb dX11_phrase_16 rfl ?_
    refine lv_aload_n hx hb dX11_phrase_17 rfl (lv_at hl 0 rfl) ?_
    refine va_get (D := D) (ci := 11) (C := RX11) (T := TX11) (N := 37) hx hb hts in_X11 hown hK hP 0 rfl rfl 36 (by decide) fl_197 (fun _ h9 => h9) rfl dX11_phrase_18 ?_
    exact mu_iret X hP hS (by rw [aPhrase, ixO_nI hi (by omega)]) (by rw [ixO_nI hi (by omega)]) dX11_phrase_21
  · replace c_5 := bI_0.mp c_5
    refine lv_bipush (v := -2) hx hb dX11_phrase_8 (by decide) ?_
    exact mu_iret X hP hS (by rw [aPhrase, no_ix c_5]) (by rw [no_ix c_5]) dX11_phrase_10

set_option maxHeartbeats 1000000 in
set_option maxRecDepth 100000 in
theorem c_X11_phraseLength {l : Launch} {D : va_G} {cI cJ cW : ClassId} {sz : Nat} {m : Nat} {a : Nat → Nat} {ct dn nw nj n tn tc mm : Nat} {τ : TS} {am pb : Int32} {F : Nat → Nat → Int32} {T : Nat → Nat → Int32} {xn : Nat} {wz : Nat → Nat → Int32} {wn : Nat → Nat} {wt : Nat → Nat → Int32} {fq : Nat} {mt mw mf : Nat → Int32} {y : Int32} (htn : tn ≤ 24) (hnw : nw ≤ 40) (hrt : RT F T tn nw xn) (hrw : RW F nw wz wn wt) (hmm : mm ≤ 60) (hfq : fq < 256) (hrm : RM mw mf mm) : MU l yX11_phraseLength wsX11_phraseLength { frames := 3, cells := 0, slots := 0, locals := 70 } D (ty3 cI cJ cW) [.ref m, .int y] [(m, .inr (11, [.int (nI ct), .ref (a 1), .ref (a 2), .int (nI dn), .int (nI nw), .int (nI nj), .ref (a 6), .ref (a 7), .ref (a 8), .ref (a 9), .ref (a 10), .ref (a 11), .ref (a 12), .ref (a 13), .ref (a 14), .ref (a 15), .int (nI n), .int (nI tn), .ref (a 18), .ref (a 19), .ref (a 20), .ref (a 21), .ref (a 22), .ref (a 23), .ref (a 24), .ref (a 25), .int (nI τ.1), .int (τ.2.1), .ref (a 28), .int (nI tc), .int (nI mm), .ref (a 31), .ref (a 32), .ref (a 33), .int (nI fq), .int (am), .int (pb)])), ((a 9), .inl (cI, 40, .inl (F 9))), ((a 11), .inl (cI, 40, .inl (F 11))), ((a 12), .inl (cI, 40, .inl (F 12))), ((a 18), .inl (cI, 24, .inl (F 18))), ((a 21), .inl (cI, 24, .inl (F 21))), ((a 31), .inl (cI, 60, .inl mt)), ((a 32), .inl (cI, 60, .inl mw)), ((a 33), .inl (cI, 60, .inl mf))] sz (some (.int (aPhLen T tn nw wz (tmI T nw wz mt mw mf (nI fq) mm) y))) [(m, .inr (11, [.int (nI ct), .ref (a 1), .ref (a 2), .int (nI dn), .int (nI nw), .int (nI nj), .ref (a 6), .ref (a 7), .ref (a 8), .ref (a 9), .ref (a 10), .ref (a 11), .ref (a 12), .ref (a 13), .ref (a 14), .ref (a 15), .int (nI n), .int (nI tn), .ref (a 18), .ref (a 19), .ref (a 20), .ref (a 21), .ref (a 22), .ref (a 23), .ref (a 24), .ref (a 25), .int (nI τ.1), .int (τ.2.1), .ref (a 28), .int (nI tc), .int (nI mm), .ref (a 31), .ref (a 32), .ref (a 33), .int (nI fq), .int (am), .int ((match ixO tn y with | none => pb | some i => (phF T tn nw wz (tmI T nw wz mt mw mf (nI fq) mm) (tn - i) i (0, 0)).1))])), ((a 9), .inl (cI, 40, .inl (F 9))), ((a 11), .inl (cI, 40, .inl (F 11))), ((a 12), .inl (cI, 40, .inl (F 12))), ((a 18), .inl (cI, 24, .inl (F 18))), ((a 21), .inl (cI, 24, .inl (F 21))), ((a 31), .inl (cI, 60, .inl mt)), ((a 32), .inl (cI, 60, .inl mw)), ((a 33), .inl (cI, 60, .inl mf))] := by
  refine mu_of (cc := cX11_phraseLength) (maxL := 2) (ret := (some .int)) (by decide) rfl (Nat.le_of_ble_eq_true rfl) ?_
  intro pr en ss mi below meth cd X hK A hA hP hD hS ls hl
  obtain ⟨hx, hb, hml, hown, hts, hr, hlocks⟩ := id X
  have hl : lv_has ls 2 [(0, .ref m), (1, .int y)] := hl
  refine lv_aload_n hx hb dX11_phraseLength_0 rfl (lv_at hl 0 rfl) ?_
  refine lv_iload_n hx hb dX11_phraseLength_1 rfl (lv_at hl 1 rfl) ?_
  refine ro_V (n := 1) X hK (c_X11_isToken htn) gX11_phraseLength_X11_isToken rfl (by decide +kernel) ⟨rfl, rfl⟩ ⟨Nat.le_of_ble_eq_true rfl, Nat.le_of_ble_eq_true rfl⟩ (hP.sub [0] rfl) (va_recv hK hP (ci := 11) (q0 := 0) rfl rfl) rfl hl.1 rfl (Nat.le_of_ble_eq_true rfl) dX11_phraseLength_2 ⟨Nat.zero_le _, Nat.zero_le _⟩ ?_
  refine lv_if_eq (tgt := 16) hx hb dX11_phraseLength_5 (by decide) (fun c_5 => ?_) (fun c_5 => ?_)
  · replace c_5 := bI_0.mp c_5
    refine lv_bipush (v := -2) hx hb dX11_phraseLength_16 (by decide) ?_
    exact mu_iret X hP hS (by rw [aPhLen, no_ix c_5]) (by rw [no_ix c_5]) dX11_phraseLength_18
  · replace c_5 := bI_n0.mp c_5
    obtain ⟨i, hi, rfl⟩ := is_ix c_5 (show tn < 2 ^ 31 by omega)
    refine lv_aload_n hx hb dX11_phraseLength_8 rfl (lv_at hl 0 rfl) ?_
    refine lv_iload_n hx hb dX11_phraseLength_9 rfl (lv_at hl 1 rfl) ?_
    refine mu_V (n := 1) X hK (c_X11_phraseAt (T := T) htn hnw hrt hrw hmm hfq hrm hi) gX11_phraseLength_X11_phraseAt rfl (by decide +kernel) ⟨rfl, rfl⟩ ⟨Nat.le_of_ble_eq_true rfl, Nat.le_of_ble_eq_true rfl⟩ [0, 1, 2, 3, 4, 5, 6, 7, 8] rfl rfl rfl rfl hA hP hD hS (va_recv hK hP (ci := 11) (q0 := 0) rfl rfl) rfl hl.1 rfl (Nat.le_of_ble_eq_true rfl) dX11_phraseLength_10 ⟨Nat.zero_le _, Nat.zero_le _⟩ (fun H locs hP hD hS => ?_)
    have hP : va_P D vwCl [(m, .inr (11, [_, .ref (a 1), .ref (a 2), _, _, _, .ref (a 6), .ref (a 7), .ref (a 8), .ref (a 9), .ref (a 10), .ref (a 11), .ref (a 12), .ref (a 13), .ref (a 14), .ref (a 15), _, _, .ref (a 18), .ref (a 19), .ref (a 20), .ref (a 21), .ref (a 22), .ref (a 23), .ref (a 24), .ref (a 25), _, _, .ref (a 28), _, _, .ref (a 31), .ref (a 32), .ref (a 33), _, _, _])), ((a 9), .inl (cI, 40, .inl _)), ((a 11), .inl (cI, 40, .inl _)), ((a 12), .inl (cI, 40, .inl _)), ((a 18), .inl (cI, 24, .inl _)), ((a 21), .inl (cI, 24, .inl _)), ((a 31), .inl (cI, 60, .inl _)), ((a 32), .inl (cI, 60, .inl _)), ((a 33), .inl (cI, 60, .inl _))] H := hP
    have hD : va_D A [(m, .inr (11, [_, .ref (a 1), .ref (a 2), _, _, _, .ref (a 6), .ref (a 7), .ref (a 8), .ref (a 9), .ref (a 10), .ref (a 11), .ref (a 12), .ref (a 13), .ref (a 14), .ref (a 15), _, _, .ref (a 18), .ref (a 19), .ref (a 20), .ref (a 21), .ref (a 22), .ref (a 23), .ref (a 24), .ref (a 25), _, _, .ref (a 28), _, _, .ref (a 31), .ref (a 32), .ref (a 33), _, _, _])), ((a 9), .inl (cI, 40, .inl _)), ((a 11), .inl (cI, 40, .inl _)), ((a 12), .inl (cI, 40, .inl _)), ((a 18), .inl (cI, 24, .inl _)), ((a 21), .inl (cI, 24, .inl _)), ((a 31), .inl (cI, 60, .inl _)), ((a 32), .inl (cI, 60, .inl _)), ((a 33), .inl (cI, 60, .inl _))] := hD
    refine lv_goto (tgt := 18) hx hb dX11_phraseLength_13 (by decide) ?_
    exact mu_iret X hP hS (by rw [aPhLen, ixO_nI hi (by omega)]) (by rw [ixO_nI hi (by omega)]) dX11_phraseLength_18
