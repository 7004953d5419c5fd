/-! the model: words, joins, things -/
def lyF (f g : Nat → Int32) (w k : Nat) : Nat → Int32 := fun i => if 20 * w ≤ i ∧ i < 20 * w + k then g (i - 20 * w) else f i
theorem lyF_0 (f g : Nat → Int32) (w : Nat) : lyF f g w 0 = f := by
  funext i; simp only [lyF]; rw [if_neg (by omega)]
theorem lyF_s (f g : Nat → Int32) (w k : Nat) : upd (lyF f g w k) (20 * w + k) (g k) = lyF f g w (k + 1) := by
  funext i
  simp only [upd, lyF]
  by_cases h : i = 20 * w + k
  · rw [if_pos h, if_pos (by omega), show i - 20 * w = k by omega]
  · rw [if_neg h]
    by_cases h2 : 20 * w ≤ i ∧ i < 20 * w + k
    · rw [if_pos h2, if_pos (by omega)]
    · rw [if_neg h2, if_neg (by omega)]
theorem likeB_cg {ct np nq : Nat} {fo : Int32 → Int32} {p p' q : Nat → Int32} (h : ∀ k, k < np → p k = p' k) : likeB ct fo p np q nq = likeB ct fo p' np q nq := by
  simp only [likeB]
  congr 1
  rw [Bool.eq_iff_iff, List.all_eq_true, List.all_eq_true]
  constructor
  · intro g k hk
    rw [← h k (by have := List.mem_range.mp hk; omega)]; exact g k hk
  · intro g k hk
    rw [h k (by have := List.mem_range.mp hk; omega)]; exact g k hk
theorem is_ix {n : Nat} {y : Int32} (h : (ixO n y).isSome = true) (hn : n < 2 ^ 31) : ∃ j, j < n ∧ y = nI j := by
  cases hx : ixO n y with
  | none => rw [hx] at h; cases h
  | some j => exact ⟨j, ixO_some hx hn⟩
theorem no_ix {n : Nat} {y : Int32} (h : (ixO n y).isSome = false) : ixO n y = none := by
  cases hx : ixO n y with
  | none => rfl
  | some j => rw [hx] at h; cases h
theorem inL {y : Int32} : inB y 0 2 = isLg y := by
  simp only [inB, isLg]
  congr 2
theorem inFl {y : Int32} : inB y 0 7 = isFl y := by
  simp only [inB, isFl]
  congr 2
theorem inFm {y : Int32} : inB y (-1) 7 = (decide (y = -1) || isFl y) := by
  have h7 : (7 : Int32).toInt = 7 := rfl
  have h8 : (8 : Int32).toInt = 8 := rfl
  have hm : (-1 : Int32).toInt = -1 := rfl
  have h0 : (0 : Int32).toInt = 0 := rfl
  rw [Bool.eq_iff_iff]
  simp only [inB, isFl, Bool.and_eq_true, Bool.or_eq_true, Bool.not_eq_true', decide_eq_false_iff_not, decide_eq_true_eq, Int32.lt_iff_toInt_lt, Int32.le_iff_toInt_le, ← Int32.toInt_inj]
  omega
theorem inV {e : Int32} : inB e 0 1000 = (!decide (e < 0) && decide (e ≤ 1000)) := by
  simp only [inB]
  congr 1
  by_cases h : (1000 : Int32) < e
  · simp [h, Int32.not_le.mpr h]
  · simp [h, Int32.not_lt.mp h]
def okW (lg kd : Int32) : Bool := isLg lg && inB kd 0 63
def aWordN (dn : Nat) (lg kd : Int32) : Int32 := if okW lg kd = true then (if dn = 0 then -4 else -5) else -3

set_option maxHeartbeats 1000000 in
set_option maxRecDepth 100000 in
theorem c_X11_lay {l : Launch} {D : va_G} {cI cJ cW : ClassId} {sz : Nat} {m : Nat} {a : Nat → Nat} {ct dn nw nj n tn tc mm : Nat} {τ : TS} {fu am pb : Int32} {F : Nat → Nat → Int32} {df : Nat → Int32} {wd : Nat} (hdn : dn ≤ 20) (hw : wd < 48) : MU l yX11_lay wsX11_lay { frames := 0, cells := 0, slots := 0, locals := 0 } D (ty3 cI cJ cW) [.ref m, .int (nI wd)] [(m, .inr (11, [.int (nI ct), .ref (a 1), .ref (a 2), .int (nI dn), .int (nI nw), .int (nI nj), .ref (a 6), .ref (a 7), .ref (a 8), .ref (a 9), .ref (a 10), .ref (a 11), .ref (a 12), .ref (a 13), .ref (a 14), .ref (a 15), .int (nI n), .int (nI tn), .ref (a 18), .ref (a 19), .ref (a 20), .ref (a 21), .ref (a 22), .ref (a 23), .ref (a 24), .ref (a 25), .int (nI τ.1), .int (τ.2.1), .ref (a 28), .int (nI tc), .int (nI mm), .ref (a 31), .ref (a 32), .ref (a 33), .int (fu), .int (am), .int (pb)])), ((a 2), .inl (cI, 20, .inl df)), ((a 6), .inl (cI, 960, .inl (F 6))), ((a 7), .inl (cI, 48, .inl (F 7)))] sz none [(m, .inr (11, [.int (nI ct), .ref (a 1), .ref (a 2), .int (0), .int (nI nw), .int (nI nj), .ref (a 6), .ref (a 7), .ref (a 8), .ref (a 9), .ref (a 10), .ref (a 11), .ref (a 12), .ref (a 13), .ref (a 14), .ref (a 15), .int (nI n), .int (nI tn), .ref (a 18), .ref (a 19), .ref (a 20), .ref (a 21), .ref (a 22), .ref (a 23), .ref (a 24), .ref (a 25), .int (nI τ.1), .int (τ.2.1), .ref (a 28), .int (nI tc), .int (nI mm), .ref (a 31), .ref (a 32), .ref (a 33), .int (fu), .int (am), .int (pb)])), ((a 2), .inl (cI, 20, .inl df)), ((a 6), .inl (cI, 960, .inl (lyF (F 6) df wd dn))), ((a 7), .inl (cI, 48, .inl (upd (F 7) wd (nI dn))))] := by
  refine mu_of (cc := cX11_lay) (maxL := 3) (ret := none) (by decide) rfl (Nat.le_of_ble_eq_true rfl) ?_
  intro pr en ss mi below meth cd X hK A hA hP hD hS ls hl
  obtain ⟨hx, hb, hml, hown, hts, hr, hlocks⟩ := id X
  have fl_100 := hts (.fieldLink RX11 100 "WordTablesModel" "drafted" "I") (by decide +kernel)
  have fl_13 := hts (.fieldLink RX11 13 "WordTablesModel" "draft" "[I") (by decide +kernel)
  have fl_16 := hts (.fieldLink RX11 16 "WordTablesModel" "letter" "[I") (by decide +kernel)
  have fl_19 := hts (.fieldLink RX11 19 "WordTablesModel" "size" "[I") (by decide +kernel)
  have in_X11 : ∀ w ∈ wsX110, w ∈ wsX11_lay := by decide +kernel
  have hl : lv_has ls 3 [(0, .ref m), (1, .int (nI wd))] := hl
  refine lv_iconst (v := 0) hx hb dX11_lay_0 (by decide) ?_
  refine lv_istore_n (lv' := [(2, _), (0, _), (1, _)]) hx hb dX11_lay_1 rfl hl (by decide) rfl (fun ls hl => ?_)
  have loop_2 : ∀ (fuel : Nat) (k : Nat), dn - k < fuel → k ≤ dn → ∀ (H : Heap) (locs : List Loc), va_P D vwCl [(m, .inr (11, [.int (nI ct), .ref (a 1), .ref (a 2), .int (nI dn), .int (nI nw), .int (nI nj), .ref (a 6), .ref (a 7), .ref (a 8), .ref (a 9), .ref (a 10), .ref (a 11), .ref (a 12), .ref (a 13), .ref (a 14), .ref (a 15), .int (nI n), .int (nI tn), .ref (a 18), .ref (a 19), .ref (a 20), .ref (a 21), .ref (a 22), .ref (a 23), .ref (a 24), .ref (a 25), .int (nI τ.1), .int (τ.2.1), .ref (a 28), .int (nI tc), .int (nI mm), .ref (a 31), .ref (a 32), .ref (a 33), .int (fu), .int (am), .int (pb)])), ((a 2), .inl (cI, 20, .inl df)), ((a 6), .inl (cI, 960, .inl (lyF (F 6) df wd k))), ((a 7), .inl (cI, 48, .inl (F 7)))] H → va_D A [(m, .inr (11, [.int (nI ct), .ref (a 1), .ref (a 2), .int (nI dn), .int (nI nw), .int (nI nj), .ref (a 6), .ref (a 7), .ref (a 8), .ref (a 9), .ref (a 10), .ref (a 11), .ref (a 12), .ref (a 13), .ref (a 14), .ref (a 15), .int (nI n), .int (nI tn), .ref (a 18), .ref (a 19), .ref (a 20), .ref (a 21), .ref (a 22), .ref (a 23), .ref (a 24), .ref (a 25), .int (nI τ.1), .int (τ.2.1), .ref (a 28), .int (nI tc), .int (nI mm), .ref (a 31), .ref (a 32), .ref (a 33), .int (fu), .int (am), .int (pb)])), ((a 2), .inl (cI, 20, .inl df)), ((a 6), .inl (cI, 960, .inl (lyF (F 6) df wd k))), ((a 7), .inl (cI, 48, .inl (F 7)))] → va_S A ss.heap H locs → ∀ ls : Array Slot, lv_has ls 3 [(0, .ref m), (1, .int (nI wd)), (2, .int (nI k))] → W pr l en { frames := 0, cells := 0, slots := 0, locals := 0 } ss mi ([.ref m, .int (nI wd)] : List Value).toArray below meth cd H locs 0 0 (MQ below (mQ none D [(m, .inr (11, [.int (nI ct), .ref (a 1), .ref (a 2), .int (0), .int (nI nw), .int (nI nj), .ref (a 6), .ref (a 7), .ref (a 8), .ref (a 9), .ref (a 10), .ref (a 11), .ref (a 12), .ref (a 13), .ref (a 14), .ref (a 15), .int (nI n), .int (nI tn), .ref (a 18), .ref (a 19), .ref (a 20), .ref (a 21), .ref (a 22), .ref (a 23), .ref (a 24), .ref (a 25), .int (nI τ.1), .int (τ.2.1), .ref (a 28), .int (nI tc), .int (nI mm), .ref (a 31), .ref (a 32), .ref (a 33), .int (fu), .int (am), .int (pb)])), ((a 2), .inl (cI, 20, .inl df)), ((a 6), .inl (cI, 960, .inl (lyF (F 6) df wd dn))), ((a 7), .inl (cI, 48, .inl (upd (F 7) wd (nI dn))))] A) ([.ref m, .int (nI wd)] : List Value).toArray ss 0 0 A) (F0 mi 2 ls []) := by
    intro fuel
    induction fuel with
    | zero => intro k hm; exact absurd hm (Nat.not_lt_zero _)
    | succ fuel ih =>
      intro k hm hk H locs hP hD hS ls hl
      refine lv_iload_n hx hb dX11_lay_2 rfl (lv_at hl 2 rfl) ?_
      refine lv_aload_n hx hb dX11_lay_3 rfl (lv_at hl 0 rfl) ?_
      refine va_get (D := D) (ci := 11) (C := RX11) (T := TX11) (N := 37) hx hb hts in_X11 hown hK hP 0 rfl rfl 3 (by decide) fl_100 (fun _ h9 => h9) rfl dX11_lay_4 ?_
      refine lv_icmp_ge (tgt := 33) hx hb dX11_lay_7 (by decide) (fun c_7 => ?_) (fun c_7 => ?_)
      · have hkm : k = dn := eq_ge c_7 hk (by omega)
        subst hkm
        refine lv_aload_n hx hb dX11_lay_33 rfl (lv_at hl 0 rfl) ?_
        refine va_get (D := D) (ci := 11) (C := RX11) (T := TX11) (N := 37) hx hb hts in_X11 hown hK hP 0 rfl rfl 7 (by decide) fl_19 (fun _ h9 => h9) rfl dX11_lay_34 ?_
        refine lv_iload_n hx hb dX11_lay_37 rfl (lv_at hl 1 rfl) ?_
        refine lv_aload_n hx hb dX11_lay_38 rfl (lv_at hl 0 rfl) ?_
        refine va_get (D := D) (ci := 11) (C := RX11) (T := TX11) (N := 37) hx hb hts in_X11 hown hK hP 0 rfl rfl 3 (by decide) fl_100 (fun _ h9 => h9) rfl dX11_lay_39 ?_
        refine ast_n hx hb hK hP hD hS 3 0 rfl rfl hw (by decide) dX11_lay_42 (fun H locs hP hD hS => ?_)
        have hP : va_P D vwCl [(m, .inr (11, [_, .ref (a 1), .ref (a 2), _, _, _, .ref (a 6), .ref (a 7), .ref (a 8), .ref (a 9), .ref (a 10), .ref (a 11), .ref (a 12), .ref (a 13), .ref (a 14), .ref (a 15), _, _, .ref (a 18), .ref (a 19), .ref (a 20), .ref (a 21), .ref (a 22), .ref (a 23), .ref (a 24), .ref (a 25), _, _, .ref (a 28), _, _, .ref (a 31), .ref (a 32), .ref (a 33), _, _, _])), ((a 2), .inl (cI, 20, .inl _)), ((a 6), .inl (cI, 960, .inl _)), ((a 7), .inl (cI, 48, .inl _))] H := hP
        have hD : va_D A [(m, .inr (11, [_, .ref (a 1), .ref (a 2), _, _, _, .ref (a 6), .ref (a 7), .ref (a 8), .ref (a 9), .ref (a 10), .ref (a 11), .ref (a 12), .ref (a 13), .ref (a 14), .ref (a 15), _, _, .ref (a 18), .ref (a 19), .ref (a 20), .ref (a 21), .ref (a 22), .ref (a 23), .ref (a 24), .ref (a 25), _, _, .ref (a 28), _, _, .ref (a 31), .ref (a 32), .ref (a 33), _, _, _])), ((a 2), .inl (cI, 20, .inl _)), ((a 6), .inl (cI, 960, .inl _)), ((a 7), .inl (cI, 48, .inl _))] := hD
        refine lv_aload_n hx hb dX11_lay_43 rfl (lv_at hl 0 rfl) ?_
        refine lv_iconst (v := 0) hx hb dX11_lay_44 (by decide) ?_
        refine va_put (D := D) (ci := 11) (ty := .int) (C := RX11) (T := TX11) (N := 37) hx hb hts in_X11 tyX11 tyX11_ok nmX11 hown hK hP hD hS 0 rfl rfl 3 (by decide) fl_100 (fun _ h9 => h9) rfl (by decide +kernel) rfl rfl (Nat.le_of_ble_eq_true rfl) dX11_lay_45 (fun H locs hP hD hS => ?_)
        have hP : va_P D vwCl [(m, .inr (11, [_, .ref (a 1), .ref (a 2), _, _, _, .ref (a 6), .ref (a 7), .ref (a 8), .ref (a 9), .ref (a 10), .ref (a 11), .ref (a 12), .ref (a 13), .ref (a 14), .ref (a 15), _, _, .ref (a 18), .ref (a 19), .ref (a 20), .ref (a 21), .ref (a 22), .ref (a 23), .ref (a 24), .ref (a 25), _, _, .ref (a 28), _, _, .ref (a 31), .ref (a 32), .ref (a 33), _, _, _])), ((a 2), .inl (cI, 20, .inl _)), ((a 6), .inl (cI, 960, .inl _)), ((a 7), .inl (cI, 48, .inl _))] H := hP
        have hD : va_D A [(m, .inr (11, [_, .ref (a 1), .ref (a 2), _, _, _, .ref (a 6), .ref (a 7), .ref (a 8), .ref (a 9), .ref (a 10), .ref (a 11), .ref (a 12), .ref (a 13), .ref (a 14), .ref (a 15), _, _, .ref (a 18), .ref (a 19), .ref (a 20), .ref (a 21), .ref (a 22), .ref (a 23), .ref (a 24), .ref (a 25), _, _, .ref (a 28), _, _, .ref (a 31), .ref (a 32), .ref (a 33), _, _, _])), ((a 2), .inl (cI, 20, .inl _)), ((a 6), .inl (cI, 960, .inl _)), ((a 7), .inl (cI, 48, .inl _))] := hD
        exact mu_vret X hP hS (rfl) dX11_lay_48
      · have hlt : k < dn := lt_nge c_7 hk (by omega)
        refine lv_aload_n hx hb dX11_lay_10 rfl (lv_at hl 0 rfl) ?_
        refine va_get (D := D) (ci := 11) (C := RX11) (T := TX11) (N := 37) hx hb hts in_X11 hown hK hP 0 rfl rfl 6 (by decide) fl_16 (fun _ h9 => h9) rfl dX11_lay_11 ?_
        refine lv_bipush (v := 20) hx hb dX11_lay_14 (by decide) ?_
        refine lv_iload_n hx hb dX11_lay_16 rfl (lv_at hl 1 rfl) ?_
        refine lv_imul hx hb dX11_lay_17 ?_
        refine lv_iload_n hx hb dX11_lay_18 rfl (lv_at hl 2 rfl) ?_
        refine lv_iadd hx hb dX11_lay_19 ?_
        refine topi_eq (show (20 : Int32) * nI wd + nI k = nI (20 * wd + k) from by rw [show (20 : Int32) = nI 20 from rfl, pk_mul, nI_add]) ?_
        refine lv_aload_n hx hb dX11_lay_20 rfl (lv_at hl 0 rfl) ?_
        refine va_get (D := D) (ci := 11) (C := RX11) (T := TX11) (N := 37) hx hb hts in_X11 hown hK hP 0 rfl rfl 2 (by decide) fl_13 (fun _ h9 => h9) rfl dX11_lay_21 ?_
        refine lv_iload_n hx hb dX11_lay_24 rfl (lv_at hl 2 rfl) ?_
        refine ald_n hx hb hK hP 1 0 rfl rfl (show k < 20 by omega) (by first | decide | omega) dX11_lay_25 ?_
        refine ast_n hx hb hK hP hD hS 2 0 rfl rfl (show 20 * wd + k < 960 by omega) (by decide) dX11_lay_26 (fun H locs hP hD hS => ?_)
        have hP : va_P D vwCl [(m, .inr (11, [_, .ref (a 1), .ref (a 2), _, _, _, .ref (a 6), .ref (a 7), .ref (a 8), .ref (a 9), .ref (a 10), .ref (a 11), .ref (a 12), .ref (a 13), .ref (a 14), .ref (a 15), _, _, .ref (a 18), .ref (a 19), .ref (a 20), .ref (a 21), .ref (a 22), .ref (a 23), .ref (a 24), .ref (a 25), _, _, .ref (a 28), _, _, .ref (a 31), .ref (a 32), .ref (a 33), _, _, _])), ((a 2), .inl (cI, 20, .inl _)), ((a 6), .inl (cI, 960, .inl _)), ((a 7), .inl (cI, 48, .inl _))] H := hP
        have hD : va_D A [(m, .inr (11, [_, .ref (a 1), .ref (a 2), _, _, _, .ref (a 6), .ref (a 7), .ref (a 8), .ref (a 9), .ref (a 10), .ref (a 11), .ref (a 12), .ref (a 13), .ref (a 14), .ref (a 15), _, _, .ref (a 18), .ref (a 19), .ref (a 20), .ref (a 21), .ref (a 22), .ref (a 23), .ref (a 24), .ref (a 25), _, _, .ref (a 28), _, _, .ref (a 31), .ref (a 32), .ref (a 33), _, _, _])), ((a 2), .inl (cI, 20, .inl _)), ((a 6), .inl (cI, 960, .inl _)), ((a 7), .inl (cI, 48, .inl _))] := hD
        refine lv_iinc (v := (_ : Int32) + 1) (lv' := [(2, _), (0, _), (1, _)]) hx hb dX11_lay_27 hl (k := 2) rfl rfl (by decide) rfl (fun ls hl => ?_)
        refine lv_goto (tgt := 2) hx hb dX11_lay_30 (by decide) ?_
        rw [nI_1] at hl
        rw [lyF_s] at hP hD
        exact ih (k + 1) (by omega) (by omega) _ _ hP hD hS _ (lv_sub hl [1, 2, 0] rfl)
  rw [← lyF_0 (F 6) df wd] at hP hD
  exact loop_2 (dn + 1) 0 (by omega) (Nat.zero_le _) _ _ hP hD hS ls (lv_sub hl [1, 2, 0] rfl)

set_option maxHeartbeats 1000000 in
set_option maxRecDepth 100000 in
theorem c_X11_word_n {l : Launch} {D : va_G} {cI cJ cW : ClassId} {m : Nat} {a : Nat → Nat} {ct dn nw nj n tn tc mm : Nat} {τ : TS} {fu am pb : Int32} {F : Nat → Nat → Int32} {fo df : Nat → Int32} {lg kd : Int32} {wz : Nat → Nat → Int32} {wn : Nat → Nat} {wt : Nat → Nat → Int32} (hct : ct < 2 ^ 30) (hdn : dn ≤ 20) (hnw : nw ≤ 40) (hrw : RW F nw wz wn wt) (hdl : ∀ k, k < dn → isLe (df k) = true) (hno : ¬ (okW lg kd = true ∧ ¬ dn = 0 ∧ (nw < 40 ∨ ∃ j, fwC ct fo wz wn wt nw df lg 0 dn = some j))) : RO l yX11_word wsX11_word { frames := 4, cells := 0, slots := 0, locals := 96 } D (ty3 cI cJ cW) [.ref m, .int lg, .int kd] [(m, .inr (11, [.int (nI ct), .ref (a 1), .ref (a 2), .int (nI dn), .int (nI nw), .int (nI nj), .ref (a 6), .ref (a 7), .ref (a 8), .ref (a 9), .ref (a 10), .ref (a 11), .ref (a 12), .ref (a 13), .ref (a 14), .ref (a 15), .int (nI n), .int (nI tn), .ref (a 18), .ref (a 19), .ref (a 20), .ref (a 21), .ref (a 22), .ref (a 23), .ref (a 24), .ref (a 25), .int (nI τ.1), .int (τ.2.1), .ref (a 28), .int (nI tc), .int (nI mm), .ref (a 31), .ref (a 32), .ref (a 33), .int (fu), .int (am), .int (pb)])), ((a 1), .inl (cI, 32, .inl fo)), ((a 2), .inl (cI, 20, .inl df)), ((a 6), .inl (cI, 960, .inl (F 6))), ((a 7), .inl (cI, 48, .inl (F 7))), ((a 8), .inl (cI, 40, .inl (F 8))), ((a 9), .inl (cI, 40, .inl (F 9))), ((a 10), .inl (cI, 40, .inl (F 10))), ((a 11), .inl (cI, 40, .inl (F 11))), ((a 12), .inl (cI, 40, .inl (F 12)))] (.int (aWordN dn lg kd)) := by
  refine ro_of (cc := cX11_word) (maxL := 4) (ret := (some .int)) (by decide) rfl (Nat.le_of_ble_eq_true rfl) ?_
  intro pr en ss mi below meth cd X hP hK ls hl
  obtain ⟨hx, hb, hml, hown, hts, hr, hlocks⟩ := id X
  have fl_100 := hts (.fieldLink RX11 100 "WordTablesModel" "drafted" "I") (by decide +kernel)
  have fl_13 := hts (.fieldLink RX11 13 "WordTablesModel" "draft" "[I") (by decide +kernel)
  have fl_90 := hts (.fieldLink RX11 90 "WordTablesModel" "words" "I") (by decide +kernel)
  have in_X11 : ∀ w ∈ wsX110, w ∈ wsX11_word := by decide +kernel
  have hl : lv_has ls 4 [(0, .ref m), (1, .int lg), (2, .int kd)] := hl
  refine lv_iload_n hx hb dX11_word_0 rfl (lv_at hl 1 rfl) ?_
  refine lv_iconst (v := 0) hx hb dX11_word_1 (by decide) ?_
  refine lv_iconst (v := 2) hx hb dX11_word_2 (by decide) ?_
  refine ro_S (n := 3) X hK (c_X11_in) gX11_word_X11_in rfl (by decide +kernel) ⟨rfl, rfl⟩ ⟨Nat.le_of_ble_eq_true rfl, Nat.le_of_ble_eq_true rfl⟩ (hP.sub [] rfl) rfl hl.1 rfl (Nat.le_of_ble_eq_true rfl) dX11_word_3 ⟨Nat.zero_le _, Nat.zero_le _⟩ ?_
  refine lv_if_eq (tgt := 19) hx hb dX11_word_6 (by decide) (fun c_6 => ?_) (fun c_6 => ?_)
  · replace c_6 := bI_0.mp c_6
    refine lv_bipush (v := -3) hx hb dX11_word_19 (by decide) ?_
    exact ro_iret X (by rw [aWordN, if_neg (fun q => by simp only [okW, Bool.and_eq_true, ← inL] at q; first | (rw [c_16] at q; exact absurd q.2 (by decide)) | (rw [c_6] at q; exact absurd q.1 (by decide)))]) dX11_word_21
  · replace c_6 := bI_n0.mp c_6
    refine lv_iload_n hx hb dX11_word_9 rfl (lv_at hl 2 rfl) ?_
    refine lv_iconst (v := 0) hx hb dX11_word_10 (by decide) ?_
    refine lv_bipush (v := 63) hx hb dX11_word_11 (by decide) ?_
    refine ro_S (n := 3) X hK (c_X11_in) gX11_word_X11_in rfl (by decide +kernel) ⟨rfl, rfl⟩ ⟨Nat.le_of_ble_eq_true rfl, Nat.le_of_ble_eq_true rfl⟩ (hP.sub [] rfl) rfl hl.1 rfl (Nat.le_of_ble_eq_true rfl) dX11_word_13 ⟨Nat.zero_le _, Nat.zero_le _⟩ ?_
    refine lv_if_ne (tgt := 22) hx hb dX11_word_16 (by decide) (fun c_16 => ?_) (fun c_16 => ?_)
    · replace c_16 := bI_n0.mp c_16
      have hok : okW lg kd = true := by rw [okW, ← inL, c_6, c_16]; rfl
      refine lv_aload_n hx hb dX11_word_22 rfl (lv_at hl 0 rfl) ?_
      refine va_get (D := D) (ci := 11) (C := RX11) (T := TX11) (N := 37) hx hb hts in_X11 hown hK hP 0 rfl rfl 3 (by decide) fl_100 (fun _ h9 => h9) rfl dX11_word_23 ?_
      refine lv_if_ne (tgt := 32) hx hb dX11_word_26 (by decide) (fun c_26 => ?_) (fun c_26 => ?_)
      · have h0 : ¬ dn = 0 := fun q => c_26 (by rw [q]; rfl)
        refine lv_aload_n hx hb dX11_word_32 rfl (lv_at hl 0 rfl) ?_
        refine lv_aload_n hx hb dX11_word_33 rfl (lv_at hl 0 rfl) ?_
        refine va_get (D := D) (ci := 11) (C := RX11) (T := TX11) (N := 37) hx hb hts in_X11 hown hK hP 0 rfl rfl 2 (by decide) fl_13 (fun _ h9 => h9) rfl dX11_word_34 ?_
        refine lv_iconst (v := 0) hx hb dX11_word_37 (by decide) ?_
        refine lv_aload_n hx hb dX11_word_38 rfl (lv_at hl 0 rfl) ?_
        refine va_get (D := D) (ci := 11) (C := RX11) (T := TX11) (N := 37) hx hb hts in_X11 hown hK hP 0 rfl rfl 3 (by decide) fl_100 (fun _ h9 => h9) rfl dX11_word_39 ?_
        refine lv_iload_n hx hb dX11_word_42 rfl (lv_at hl 1 rfl) ?_
        refine ro_V (n := 4) X hK (c_X11_found (F := F) (fr := 0) hct (by decide) (by omega) hnw hrw (fun k hk => by rw [Nat.zero_add]; exact hdl k hk)) gX11_word_X11_found rfl (by decide +kernel) ⟨rfl, rfl⟩ ⟨Nat.le_of_ble_eq_true rfl, Nat.le_of_ble_eq_true rfl⟩ (hP.sub [0, 1, 3, 4, 5, 2] rfl) (va_recv hK hP (ci := 11) (q0 := 0) rfl rfl) rfl hl.1 rfl (Nat.le_of_ble_eq_true rfl) dX11_word_43 ⟨Nat.zero_le _, Nat.zero_le _⟩ ?_
        rcases h_43 : fwC ct fo wz wn wt nw df lg 0 dn with _ | j_43
        · refine lv_istore_n (lv' := [(3, _), (0, _), (1, _), (2, _)]) hx hb dX11_word_46 rfl hl (by decide) rfl (fun ls hl => ?_)
          refine lv_iload_n hx hb dX11_word_47 rfl (lv_at hl 0 rfl) ?_
          refine lv_if_lt (tgt := 68) hx hb dX11_word_48 (by decide) (fun _ => ?_) (fun c_48 => absurd c_48 (by decide))
          refine lv_aload_n hx hb dX11_word_68 rfl (lv_at hl 1 rfl) ?_
          refine va_get (D := D) (ci := 11) (C := RX11) (T := TX11) (N := 37) hx hb hts in_X11 hown hK hP 0 rfl rfl 4 (by decide) fl_90 (fun _ h9 => h9) rfl dX11_word_69 ?_
          refine lv_bipush (v := 40) hx hb dX11_word_72 (by decide) ?_
          refine lv_icmp_ne (tgt := 80) hx hb dX11_word_74 (by decide) (fun c_74 => ?_) (fun c_74 => ?_)
          · exact absurd ⟨hok, h0, Or.inl (by rcases Nat.lt_or_ge nw 40 with q | q; exact q; exact absurd (show nI nw = 40 by rw [show nw = 40 by omega]; rfl) c_74)⟩ hno
          · have h40 : nw = 40 := (nI_eq (a := nw) (b := 40) (by omega) (by decide)).mp c_74
            refine lv_bipush (v := -5) hx hb dX11_word_77 (by decide) ?_
            exact ro_iret X (by rw [aWordN, if_pos hok, if_neg h0]) dX11_word_79
        · refine lv_istore_n (lv' := [(3, _), (0, _), (1, _), (2, _)]) hx hb dX11_word_46 rfl hl (by decide) rfl (fun ls hl => ?_)
          refine lv_iload_n hx hb dX11_word_47 rfl (lv_at hl 0 rfl) ?_
          refine lv_if_lt (tgt := 68) hx hb dX11_word_48 (by decide) (fun c_48 => absurd c_48 (nI_pos (by have := (fiO_some _ _ _ h_43).2.1; omega))) (fun _ => ?_)
          exact absurd ⟨hok, h0, Or.inr ⟨_, h_43⟩⟩ hno
      · have h0 : dn = 0 := (nI_eq (a := dn) (b := 0) (by omega) (by decide)).mp c_26
        refine lv_bipush (v := -4) hx hb dX11_word_29 (by decide) ?_
        exact ro_iret X (by rw [aWordN, if_pos hok, if_pos h0]) dX11_word_31
    · replace c_16 := bI_0.mp c_16
      refine lv_bipush (v := -3) hx hb dX11_word_19 (by decide) ?_
      exact ro_iret X (by rw [aWordN, if_neg (fun q => by simp only [okW, Bool.and_eq_true, ← inL] at q; first | (rw [c_16] at q; exact absurd q.2 (by decide)) | (rw [c_6] at q; exact absurd q.1 (by decide)))]) dX11_word_21

set_option maxHeartbeats 1000000 in
set_option maxRecDepth 100000 in
theorem c_X11_word_f {l : Launch} {D : va_G} {cI cJ cW : ClassId} {sz : Nat} {m : Nat} {a : Nat → Nat} {ct dn nw nj n tn tc mm : Nat} {τ : TS} {fu am pb : Int32} {F : Nat → Nat → Int32} {fo df : Nat → Int32} {lg kd : Int32} {j : Nat} {wz : Nat → Nat → Int32} {wn : Nat → Nat} {wt : Nat → Nat → Int32} (hct : ct < 2 ^ 30) (hdn : dn ≤ 20) (hnw : nw ≤ 40) (hrw : RW F nw wz wn wt) (hdl : ∀ k, k < dn → isLe (df k) = true) (hok : okW lg kd = true) (h0 : ¬ dn = 0) (hf : fwC ct fo wz wn wt nw df lg 0 dn = some j) : MU l yX11_word wsX11_word { frames := 4, cells := 0, slots := 0, locals := 96 } D (ty3 cI cJ cW) [.ref m, .int lg, .int kd] [(m, .inr (11, [.int (nI ct), .ref (a 1), .ref (a 2), .int (nI dn), .int (nI nw), .int (nI nj), .ref (a 6), .ref (a 7), .ref (a 8), .ref (a 9), .ref (a 10), .ref (a 11), .ref (a 12), .ref (a 13), .ref (a 14), .ref (a 15), .int (nI n), .int (nI tn), .ref (a 18), .ref (a 19), .ref (a 20), .ref (a 21), .ref (a 22), .ref (a 23), .ref (a 24), .ref (a 25), .int (nI τ.1), .int (τ.2.1), .ref (a 28), .int (nI tc), .int (nI mm), .ref (a 31), .ref (a 32), .ref (a 33), .int (fu), .int (am), .int (pb)])), ((a 1), .inl (cI, 32, .inl fo)), ((a 2), .inl (cI, 20, .inl df)), ((a 6), .inl (cI, 960, .inl (F 6))), ((a 7), .inl (cI, 48, .inl (F 7))), ((a 8), .inl (cI, 40, .inl (F 8))), ((a 9), .inl (cI, 40, .inl (F 9))), ((a 10), .inl (cI, 40, .inl (F 10))), ((a 11), .inl (cI, 40, .inl (F 11))), ((a 12), .inl (cI, 40, .inl (F 12)))] sz (some (.int (nI j))) [(m, .inr (11, [.int (nI ct), .ref (a 1), .ref (a 2), .int (0), .int (nI nw), .int (nI nj), .ref (a 6), .ref (a 7), .ref (a 8), .ref (a 9), .ref (a 10), .ref (a 11), .ref (a 12), .ref (a 13), .ref (a 14), .ref (a 15), .int (nI n), .int (nI tn), .ref (a 18), .ref (a 19), .ref (a 20), .ref (a 21), .ref (a 22), .ref (a 23), .ref (a 24), .ref (a 25), .int (nI τ.1), .int (τ.2.1), .ref (a 28), .int (nI tc), .int (nI mm), .ref (a 31), .ref (a 32), .ref (a 33), .int (fu), .int (am), .int (pb)])), ((a 1), .inl (cI, 32, .inl fo)), ((a 2), .inl (cI, 20, .inl df)), ((a 6), .inl (cI, 960, .inl (F 6))), ((a 7), .inl (cI, 48, .inl (F 7))), ((a 8), .inl (cI, 40, .inl (F 8))), ((a 9), .inl (cI, 40, .inl (upd (F 9) j (F 9 j ||| kd)))), ((a 10), .inl (cI, 40, .inl (F 10))), ((a 11), .inl (cI, 40, .inl (F 11))), ((a 12), .inl (cI, 40, .inl (F 12)))] := by
  have hjn : j < nw := by have := (fiO_some _ _ _ hf).2.1; omega
  refine mu_of (cc := cX11_word) (maxL := 4) (ret := (some .int)) (by decide) rfl (Nat.le_of_ble_eq_true rfl) ?_
  intro pr en ss mi below meth cd X hK A hA hP hD hS ls hl
  obtain ⟨hx, hb, hml, hown, hts, hr, hlocks⟩ := id X
  have fl_100 := hts (.fieldLink RX11 100 "WordTablesModel" "drafted" "I") (by decide +kernel)
  have fl_13 := hts (.fieldLink RX11 13 "WordTablesModel" "draft" "[I") (by decide +kernel)
  have fl_25 := hts (.fieldLink RX11 25 "WordTablesModel" "kinds" "[I") (by decide +kernel)
  have in_X11 : ∀ w ∈ wsX110, w ∈ wsX11_word := by decide +kernel
  have hl : lv_has ls 4 [(0, .ref m), (1, .int lg), (2, .int kd)] := hl
  refine lv_iload_n hx hb dX11_word_0 rfl (lv_at hl 1 rfl) ?_
  refine lv_iconst (v := 0) hx hb dX11_word_1 (by decide) ?_
  refine lv_iconst (v := 2) hx hb dX11_word_2 (by decide) ?_
  refine ro_S (n := 3) X hK (c_X11_in) gX11_word_X11_in rfl (by decide +kernel) ⟨rfl, rfl⟩ ⟨Nat.le_of_ble_eq_true rfl, Nat.le_of_ble_eq_true rfl⟩ (hP.sub [] rfl) rfl hl.1 rfl (Nat.le_of_ble_eq_true rfl) dX11_word_3 ⟨Nat.zero_le _, Nat.zero_le _⟩ ?_
  refine lv_if_eq (tgt := 19) hx hb dX11_word_6 (by decide) (fun c_6 => ?_) (fun c_6 => ?_)
  · replace c_6 := bI_0.mp c_6
    exact absurd hok (fun q => by simp only [okW, Bool.and_eq_true, ← inL] at q; first | (rw [c_16] at q; exact absurd q.2 (by decide)) | (rw [c_6] at q; exact absurd q.1 (by decide)))
  · replace c_6 := bI_n0.mp c_6
    refine lv_iload_n hx hb dX11_word_9 rfl (lv_at hl 2 rfl) ?_
    refine lv_iconst (v := 0) hx hb dX11_word_10 (by decide) ?_
    refine lv_bipush (v := 63) hx hb dX11_word_11 (by decide) ?_
    refine ro_S (n := 3) X hK (c_X11_in) gX11_word_X11_in rfl (by decide +kernel) ⟨rfl, rfl⟩ ⟨Nat.le_of_ble_eq_true rfl, Nat.le_of_ble_eq_true rfl⟩ (hP.sub [] rfl) rfl hl.1 rfl (Nat.le_of_ble_eq_true rfl) dX11_word_13 ⟨Nat.zero_le _, Nat.zero_le _⟩ ?_
    refine lv_if_ne (tgt := 22) hx hb dX11_word_16 (by decide) (fun c_16 => ?_) (fun c_16 => ?_)
    · replace c_16 := bI_n0.mp c_16
      refine lv_aload_n hx hb dX11_word_22 rfl (lv_at hl 0 rfl) ?_
      refine va_get (D := D) (ci := 11) (C := RX11) (T := TX11) (N := 37) hx hb hts in_X11 hown hK hP 0 rfl rfl 3 (by decide) fl_100 (fun _ h9 => h9) rfl dX11_word_23 ?_
      refine lv_if_ne (tgt := 32) hx hb dX11_word_26 (by decide) (fun c_26 => ?_) (fun c_26 => ?_)
      · refine lv_aload_n hx hb dX11_word_32 rfl (lv_at hl 0 rfl) ?_
        refine lv_aload_n hx hb dX11_word_33 rfl (lv_at hl 0 rfl) ?_
        refine va_get (D := D) (ci := 11) (C := RX11) (T := TX11) (N := 37) hx hb hts in_X11 hown hK hP 0 rfl rfl 2 (by decide) fl_13 (fun _ h9 => h9) rfl dX11_word_34 ?_
        refine lv_iconst (v := 0) hx hb dX11_word_37 (by decide) ?_
        refine lv_aload_n hx hb dX11_word_38 rfl (lv_at hl 0 rfl) ?_
        refine va_get (D := D) (ci := 11) (C := RX11) (T := TX11) (N := 37) hx hb hts in_X11 hown hK hP 0 rfl rfl 3 (by decide) fl_100 (fun _ h9 => h9) rfl dX11_word_39 ?_
        refine lv_iload_n hx hb dX11_word_42 rfl (lv_at hl 1 rfl) ?_
        refine ro_V (n := 4) X hK (c_X11_found (F := F) (fr := 0) hct (by decide) (by omega) hnw hrw (fun k hk => by rw [Nat.zero_add]; exact hdl k hk)) gX11_word_X11_found rfl (by decide +kernel) ⟨rfl, rfl⟩ ⟨Nat.le_of_ble_eq_true rfl, Nat.le_of_ble_eq_true rfl⟩ (hP.sub [0, 1, 3, 4, 5, 2] rfl) (va_recv hK hP (ci := 11) (q0 := 0) rfl rfl) rfl hl.1 rfl (Nat.le_of_ble_eq_true rfl) dX11_word_43 ⟨Nat.zero_le _, Nat.zero_le _⟩ ?_
        rw [hf]
        show W _ _ _ _ _ _ _ _ _ _ _ _ _ _ _ (F0 _ _ _ (.int (nI j) :: _))
        refine lv_istore_n (lv' := [(3, _), (0, _), (1, _), (2, _)]) hx hb dX11_word_46 rfl hl (by decide) rfl (fun ls hl => ?_)
        refine lv_iload_n hx hb dX11_word_47 rfl (lv_at hl 0 rfl) ?_
        refine lv_if_lt (tgt := 68) hx hb dX11_word_48 (by decide) (fun c_48 => ?_) (fun c_48 => ?_)
        · exact absurd c_48 (nI_pos (by omega))
        · refine lv_aload_n hx hb dX11_word_51 rfl (lv_at hl 1 rfl) ?_
          refine va_get (D := D) (ci := 11) (C := RX11) (T := TX11) (N := 37) hx hb hts in_X11 hown hK hP 0 rfl rfl 9 (by decide) fl_25 (fun _ h9 => h9) rfl dX11_word_52 ?_
          refine lv_iload_n hx hb dX11_word_55 rfl (lv_at hl 0 rfl) ?_
          refine lv_dup2_11 hx hb dX11_word_56 rfl rfl ?_
          refine ald_n hx hb hK hP 6 0 rfl rfl (show j < 40 by omega) (by first | decide | omega) dX11_word_57 ?_
          refine lv_iload_n hx hb dX11_word_58 rfl (lv_at hl 3 rfl) ?_
          refine lv_ior hx hb dX11_word_59 ?_
          refine ast_n hx hb hK hP hD hS 6 0 rfl rfl (show j < 40 by omega) (by decide) dX11_word_60 (fun H locs hP hD hS => ?_)
          have hP : va_P D vwCl [(m, .inr (11, [_, .ref (a 1), .ref (a 2), _, _, _, .ref (a 6), .ref (a 7), .ref (a 8), .ref (a 9), .ref (a 10), .ref (a 11), .ref (a 12), .ref (a 13), .ref (a 14), .ref (a 15), _, _, .ref (a 18), .ref (a 19), .ref (a 20), .ref (a 21), .ref (a 22), .ref (a 23), .ref (a 24), .ref (a 25), _, _, .ref (a 28), _, _, .ref (a 31), .ref (a 32), .ref (a 33), _, _, _])), ((a 1), .inl (cI, 32, .inl _)), ((a 2), .inl (cI, 20, .inl _)), ((a 6), .inl (cI, 960, .inl _)), ((a 7), .inl (cI, 48, .inl _)), ((a 8), .inl (cI, 40, .inl _)), ((a 9), .inl (cI, 40, .inl _)), ((a 10), .inl (cI, 40, .inl _)), ((a 11), .inl (cI, 40, .inl _)), ((a 12), .inl (cI, 40, .inl _))] H := hP
          have hD : va_D A [(m, .inr (11, [_, .ref (a 1), .ref (a 2), _, _, _, .ref (a 6), .ref (a 7), .ref (a 8), .ref (a 9), .ref (a 10), .ref (a 11), .ref (a 12), .ref (a 13), .ref (a 14), .ref (a 15), _, _, .ref (a 18), .ref (a 19), .ref (a 20), .ref (a 21), .ref (a 22), .ref (a 23), .ref (a 24), .ref (a 25), _, _, .ref (a 28), _, _, .ref (a 31), .ref (a 32), .ref (a 33), _, _, _])), ((a 1), .inl (cI, 32, .inl _)), ((a 2), .inl (cI, 20, .inl _)), ((a 6), .inl (cI, 960, .inl _)), ((a 7), .inl (cI, 48, .inl _)), ((a 8), .inl (cI, 40, .inl _)), ((a 9), .inl (cI, 40, .inl _)), ((a 10), .inl (cI, 40, .inl _)), ((a 11), .inl (cI, 40, .inl _)), ((a 12), .inl (cI, 40, .inl _))] := hD
          refine lv_aload_n hx hb dX11_word_61 rfl (lv_at hl 1 rfl) ?_
          refine lv_iconst (v := 0) hx hb dX11_word_62 (by decide) ?_
          refine va_put (D := D) (ci := 11) (ty := .int) (C := RX11) (T := TX11) (N := 37) hx hb hts in_X11 tyX11 tyX11_ok nmX11 hown hK hP hD hS 0 rfl rfl 3 (by decide) fl_100 (fun _ h9 => h9) rfl (by decide +kernel) rfl rfl (Nat.le_of_ble_eq_true rfl) dX11_word_63 (fun H locs hP hD hS => ?_)
          have hP : va_P D vwCl [(m, .inr (11, [_, .ref (a 1), .ref (a 2), _, _, _, .ref (a 6), .ref (a 7), .ref (a 8), .ref (a 9), .ref (a 10), .ref (a 11), .ref (a 12), .ref (a 13), .ref (a 14), .ref (a 15), _, _, .ref (a 18), .ref (a 19), .ref (a 20), .ref (a 21), .ref (a 22), .ref (a 23), .ref (a 24), .ref (a 25), _, _, .ref (a 28), _, _, .ref (a 31), .ref (a 32), .ref (a 33), _, _, _])), ((a 1), .inl (cI, 32, .inl _)), ((a 2), .inl (cI, 20, .inl _)), ((a 6), .inl (cI, 960, .inl _)), ((a 7), .inl (cI, 48, .inl _)), ((a 8), .inl (cI, 40, .inl _)), ((a 9), .inl (cI, 40, .inl _)), ((a 10), .inl (cI, 40, .inl _)), ((a 11), .inl (cI, 40, .inl _)), ((a 12), .inl (cI, 40, .inl _))] H := hP
          have hD : va_D A [(m, .inr (11, [_, .ref (a 1), .ref (a 2), _, _, _, .ref (a 6), .ref (a 7), .ref (a 8), .ref (a 9), .ref (a 10), .ref (a 11), .ref (a 12), .ref (a 13), .ref (a 14), .ref (a 15), _, _, .ref (a 18), .ref (a 19), .ref (a 20), .ref (a 21), .ref (a 22), .ref (a 23), .ref (a 24), .ref (a 25), _, _, .ref (a 28), _, _, .ref (a 31), .ref (a 32), .ref (a 33), _, _, _])), ((a 1), .inl (cI, 32, .inl _)), ((a 2), .inl (cI, 20, .inl _)), ((a 6), .inl (cI, 960, .inl _)), ((a 7), .inl (cI, 48, .inl _)), ((a 8), .inl (cI, 40, .inl _)), ((a 9), .inl (cI, 40, .inl _)), ((a 10), .inl (cI, 40, .inl _)), ((a 11), .inl (cI, 40, .inl _)), ((a 12), .inl (cI, 40, .inl _))] := hD
          refine lv_iload_n hx hb dX11_word_66 rfl (lv_at hl 0 rfl) ?_
          exact mu_iret X hP hS (rfl) (rfl) dX11_word_67
      · exact absurd ((nI_eq (a := dn) (b := 0) (by omega) (by decide)).mp c_26) h0
    · replace c_16 := bI_0.mp c_16
      exact absurd hok (fun q => by simp only [okW, Bool.and_eq_true, ← inL] at q; first | (rw [c_16] at q; exact absurd q.2 (by decide)) | (rw [c_6] at q; exact absurd q.1 (by decide)))

set_option maxHeartbeats 1000000 in
set_option maxRecDepth 100000 in
theorem c_X11_word_w {l : Launch} {D : va_G} {cI cJ cW : ClassId} {sz : Nat} {m : Nat} {a : Nat → Nat} {ct dn nw nj n tn tc mm : Nat} {τ : TS} {fu am pb : Int32} {F : Nat → Nat → Int32} {fo df : Nat → Int32} {lg kd : Int32} {wz : Nat → Nat → Int32} {wn : Nat → Nat} {wt : Nat → Nat → Int32} (hct : ct < 2 ^ 30) (hdn : dn ≤ 20) (hnw : nw ≤ 40) (hrw : RW F nw wz wn wt) (hdl : ∀ k, k < dn → isLe (df k) = true) (hok : okW lg kd = true) (h0 : ¬ dn = 0) (hf : fwC ct fo wz wn wt nw df lg 0 dn = none) (h40 : nw < 40) : MU l yX11_word wsX11_word { frames := 4, cells := 0, slots := 0, locals := 96 } D (ty3 cI cJ cW) [.ref m, .int lg, .int kd] [(m, .inr (11, [.int (nI ct), .ref (a 1), .ref (a 2), .int (nI dn), .int (nI nw), .int (nI nj), .ref (a 6), .ref (a 7), .ref (a 8), .ref (a 9), .ref (a 10), .ref (a 11), .ref (a 12), .ref (a 13), .ref (a 14), .ref (a 15), .int (nI n), .int (nI tn), .ref (a 18), .ref (a 19), .ref (a 20), .ref (a 21), .ref (a 22), .ref (a 23), .ref (a 24), .ref (a 25), .int (nI τ.1), .int (τ.2.1), .ref (a 28), .int (nI tc), .int (nI mm), .ref (a 31), .ref (a 32), .ref (a 33), .int (fu), .int (am), .int (pb)])), ((a 1), .inl (cI, 32, .inl fo)), ((a 2), .inl (cI, 20, .inl df)), ((a 6), .inl (cI, 960, .inl (F 6))), ((a 7), .inl (cI, 48, .inl (F 7))), ((a 8), .inl (cI, 40, .inl (F 8))), ((a 9), .inl (cI, 40, .inl (F 9))), ((a 10), .inl (cI, 40, .inl (F 10))), ((a 11), .inl (cI, 40, .inl (F 11))), ((a 12), .inl (cI, 40, .inl (F 12)))] sz (some (.int (nI nw))) [(m, .inr (11, [.int (nI ct), .ref (a 1), .ref (a 2), .int (0), .int (nI (nw + 1)), .int (nI nj), .ref (a 6), .ref (a 7), .ref (a 8), .ref (a 9), .ref (a 10), .ref (a 11), .ref (a 12), .ref (a 13), .ref (a 14), .ref (a 15), .int (nI n), .int (nI tn), .ref (a 18), .ref (a 19), .ref (a 20), .ref (a 21), .ref (a 22), .ref (a 23), .ref (a 24), .ref (a 25), .int (nI τ.1), .int (τ.2.1), .ref (a 28), .int (nI tc), .int (nI mm), .ref (a 31), .ref (a 32), .ref (a 33), .int (fu), .int (am), .int (pb)])), ((a 1), .inl (cI, 32, .inl fo)), ((a 2), .inl (cI, 20, .inl df)), ((a 6), .inl (cI, 960, .inl (lyF (F 6) df nw dn))), ((a 7), .inl (cI, 48, .inl (upd (F 7) nw (nI dn)))), ((a 8), .inl (cI, 40, .inl (upd (F 8) nw lg))), ((a 9), .inl (cI, 40, .inl (upd (F 9) nw kd))), ((a 10), .inl (cI, 40, .inl (upd (F 10) nw 0))), ((a 11), .inl (cI, 40, .inl (upd (F 11) nw (-1)))), ((a 12), .inl (cI, 40, .inl (upd (F 12) nw 0)))] := by
  refine mu_of (cc := cX11_word) (maxL := 4) (ret := (some .int)) (by decide) rfl (Nat.le_of_ble_eq_true rfl) ?_
  intro pr en ss mi below meth cd X hK A hA hP hD hS ls hl
  obtain ⟨hx, hb, hml, hown, hts, hr, hlocks⟩ := id X
  have fl_100 := hts (.fieldLink RX11 100 "WordTablesModel" "drafted" "I") (by decide +kernel)
  have fl_13 := hts (.fieldLink RX11 13 "WordTablesModel" "draft" "[I") (by decide +kernel)
  have fl_22 := hts (.fieldLink RX11 22 "WordTablesModel" "language" "[I") (by decide +kernel)
  have fl_25 := hts (.fieldLink RX11 25 "WordTablesModel" "kinds" "[I") (by decide +kernel)
  have fl_28 := hts (.fieldLink RX11 28 "WordTablesModel" "value" "[I") (by decide +kernel)
  have fl_31 := hts (.fieldLink RX11 31 "WordTablesModel" "pluralOf" "[I") (by decide +kernel)
  have fl_34 := hts (.fieldLink RX11 34 "WordTablesModel" "refers" "[I") (by decide +kernel)
  have fl_90 := hts (.fieldLink RX11 90 "WordTablesModel" "words" "I") (by decide +kernel)
  have in_X11 : ∀ w ∈ wsX110, w ∈ wsX11_word := by decide +kernel
  have hl : lv_has ls 4 [(0, .ref m), (1, .int lg), (2, .int kd)] := hl
  refine lv_iload_n hx hb dX11_word_0 rfl (lv_at hl 1 rfl) ?_
  refine lv_iconst (v := 0) hx hb dX11_word_1 (by decide) ?_
  refine lv_iconst (v := 2) hx hb dX11_word_2 (by decide) ?_
  refine ro_S (n := 3) X hK (c_X11_in) gX11_word_X11_in rfl (by decide +kernel) ⟨rfl, rfl⟩ ⟨Nat.le_of_ble_eq_true rfl, Nat.le_of_ble_eq_true rfl⟩ (hP.sub [] rfl) rfl hl.1 rfl (Nat.le_of_ble_eq_true rfl) dX11_word_3 ⟨Nat.zero_le _, Nat.zero_le _⟩ ?_
  refine lv_if_eq (tgt := 19) hx hb dX11_word_6 (by decide) (fun c_6 => ?_) (fun c_6 => ?_)
  · replace c_6 := bI_0.mp c_6
    exact absurd hok (fun q => by simp only [okW, Bool.and_eq_true, ← inL] at q; first | (rw [c_16] at q; exact absurd q.2 (by decide)) | (rw [c_6] at q; exact absurd q.1 (by decide)))
  · replace c_6 := bI_n0.mp c_6
    refine lv_iload_n hx hb dX11_word_9 rfl (lv_at hl 2 rfl) ?_
    refine lv_iconst (v := 0) hx hb dX11_word_10 (by decide) ?_
    refine lv_bipush (v := 63) hx hb dX11_word_11 (by decide) ?_
    refine ro_S (n := 3) X hK (c_X11_in) gX11_word_X11_in rfl (by decide +kernel) ⟨rfl, rfl⟩ ⟨Nat.le_of_ble_eq_true rfl, Nat.le_of_ble_eq_true rfl⟩ (hP.sub [] rfl) rfl hl.1 rfl (Nat.le_of_ble_eq_true rfl) dX11_word_13 ⟨Nat.zero_le _, Nat.zero_le _⟩ ?_
    refine lv_if_ne (tgt := 22) hx hb dX11_word_16 (by decide) (fun c_16 => ?_) (fun c_16 => ?_)
    · replace c_16 := bI_n0.mp c_16
      refine lv_aload_n hx hb dX11_word_22 rfl (lv_at hl 0 rfl) ?_
      refine va_get (D := D) (ci := 11) (C := RX11) (T := TX11) (N := 37) hx hb hts in_X11 hown hK hP 0 rfl rfl 3 (by decide) fl_100 (fun _ h9 => h9) rfl dX11_word_23 ?_
      refine lv_if_ne (tgt := 32) hx hb dX11_word_26 (by decide) (fun c_26 => ?_) (fun c_26 => ?_)
      · refine lv_aload_n hx hb dX11_word_32 rfl (lv_at hl 0 rfl) ?_
        refine lv_aload_n hx hb dX11_word_33 rfl (lv_at hl 0 rfl) ?_
        refine va_get (D := D) (ci := 11) (C := RX11) (T := TX11) (N := 37) hx hb hts in_X11 hown hK hP 0 rfl rfl 2 (by decide) fl_13 (fun _ h9 => h9) rfl dX11_word_34 ?_
        refine lv_iconst (v := 0) hx hb dX11_word_37 (by decide) ?_
        refine lv_aload_n hx hb dX11_word_38 rfl (lv_at hl 0 rfl) ?_
        refine va_get (D := D) (ci := 11) (C := RX11) (T := TX11) (N := 37) hx hb hts in_X11 hown hK hP 0 rfl rfl 3 (by decide) fl_100 (fun _ h9 => h9) rfl dX11_word_39 ?_
        refine lv_iload_n hx hb dX11_word_42 rfl (lv_at hl 1 rfl) ?_
        refine ro_V (n := 4) X hK (c_X11_found (F := F) (fr := 0) hct (by decide) (by omega) hnw hrw (fun k hk => by rw [Nat.zero_add]; exact hdl k hk)) gX11_word_X11_found rfl (by decide +kernel) ⟨rfl, rfl⟩ ⟨Nat.le_of_ble_eq_true rfl, Nat.le_of_ble_eq_true rfl⟩ (hP.sub [0, 1, 3, 4, 5, 2] rfl) (va_recv hK hP (ci := 11) (q0 := 0) rfl rfl) rfl hl.1 rfl (Nat.le_of_ble_eq_true rfl) dX11_word_43 ⟨Nat.zero_le _, Nat.zero_le _⟩ ?_
        rw [hf]
        refine lv_istore_n (lv' := [(3, _), (0, _), (1, _), (2, _)]) hx hb dX11_word_46 rfl hl (by decide) rfl (fun ls hl => ?_)
        refine lv_iload_n hx hb dX11_word_47 rfl (lv_at hl 0 rfl) ?_
        refine lv_if_lt (tgt := 68) hx hb dX11_word_48 (by decide) (fun c_48 => ?_) (fun c_48 => ?_)
        · refine lv_aload_n hx hb dX11_word_68 rfl (lv_at hl 1 rfl) ?_
          refine va_get (D := D) (ci := 11) (C := RX11) (T := TX11) (N := 37) hx hb hts in_X11 hown hK hP 0 rfl rfl 4 (by decide) fl_90 (fun _ h9 => h9) rfl dX11_word_69 ?_
          refine lv_bipush (v := 40) hx hb dX11_word_72 (by decide) ?_
          refine lv_icmp_ne (tgt := 80) hx hb dX11_word_74 (by decide) (fun c_74 => ?_) (fun c_74 => ?_)
          · refine lv_aload_n hx hb dX11_word_80 rfl (lv_at hl 1 rfl) ?_
            refine lv_aload_n hx hb dX11_word_81 rfl (lv_at hl 1 rfl) ?_
            refine va_get (D := D) (ci := 11) (C := RX11) (T := TX11) (N := 37) hx hb hts in_X11 hown hK hP 0 rfl rfl 4 (by decide) fl_90 (fun _ h9 => h9) rfl dX11_word_82 ?_
            refine mu_V (n := 1) X hK (c_X11_lay hdn (by omega)) gX11_word_X11_lay rfl (by decide +kernel) ⟨rfl, rfl⟩ ⟨Nat.le_of_ble_eq_true rfl, Nat.le_of_ble_eq_true rfl⟩ [0, 2, 3, 4] rfl rfl rfl rfl hA hP hD hS (va_recv hK hP (ci := 11) (q0 := 0) rfl rfl) rfl hl.1 rfl (Nat.le_of_ble_eq_true rfl) dX11_word_85 ⟨Nat.zero_le _, Nat.zero_le _⟩ (fun H locs hP hD hS => ?_)
            have hP : va_P D vwCl [(m, .inr (11, [_, .ref (a 1), .ref (a 2), _, _, _, .ref (a 6), .ref (a 7), .ref (a 8), .ref (a 9), .ref (a 10), .ref (a 11), .ref (a 12), .ref (a 13), .ref (a 14), .ref (a 15), _, _, .ref (a 18), .ref (a 19), .ref (a 20), .ref (a 21), .ref (a 22), .ref (a 23), .ref (a 24), .ref (a 25), _, _, .ref (a 28), _, _, .ref (a 31), .ref (a 32), .ref (a 33), _, _, _])), ((a 1), .inl (cI, 32, .inl _)), ((a 2), .inl (cI, 20, .inl _)), ((a 6), .inl (cI, 960, .inl _)), ((a 7), .inl (cI, 48, .inl _)), ((a 8), .inl (cI, 40, .inl _)), ((a 9), .inl (cI, 40, .inl _)), ((a 10), .inl (cI, 40, .inl _)), ((a 11), .inl (cI, 40, .inl _)), ((a 12), .inl (cI, 40, .inl _))] H := hP
            have hD : va_D A [(m, .inr (11, [_, .ref (a 1), .ref (a 2), _, _, _, .ref (a 6), .ref (a 7), .ref (a 8), .ref (a 9), .ref (a 10), .ref (a 11), .ref (a 12), .ref (a 13), .ref (a 14), .ref (a 15), _, _, .ref (a 18), .ref (a 19), .ref (a 20), .ref (a 21), .ref (a 22), .ref (a 23), .ref (a 24), .ref (a 25), _, _, .ref (a 28), _, _, .ref (a 31), .ref (a 32), .ref (a 33), _, _, _])), ((a 1), .inl (cI, 32, .inl _)), ((a 2), .inl (cI, 20, .inl _)), ((a 6), .inl (cI, 960, .inl _)), ((a 7), .inl (cI, 48, .inl _)), ((a 8), .inl (cI, 40, .inl _)), ((a 9), .inl (cI, 40, .inl _)), ((a 10), .inl (cI, 40, .inl _)), ((a 11), .inl (cI, 40, .inl _)), ((a 12), .inl (cI, 40, .inl _))] := hD
            refine lv_aload_n hx hb dX11_word_88 rfl (lv_at hl 1 rfl) ?_
            refine va_get (D := D) (ci := 11) (C := RX11) (T := TX11) (N := 37) hx hb hts in_X11 hown hK hP 0 rfl rfl 8 (by decide) fl_22 (fun _ h9 => h9) rfl dX11_word_89 ?_
            refine lv_aload_n hx hb dX11_word_92 rfl (lv_at hl 1 rfl) ?_
            refine va_get (D := D) (ci := 11) (C := RX11) (T := TX11) (N := 37) hx hb hts in_X11 hown hK hP 0 rfl rfl 4 (by decide) fl_90 (fun _ h9 => h9) rfl dX11_word_93 ?_
            refine lv_iload_n hx hb dX11_word_96 rfl (lv_at hl 2 rfl) ?_
            refine ast_n hx hb hK hP hD hS 5 0 rfl rfl h40 (by decide) dX11_word_97 (fun H locs hP hD hS => ?_)
            have hP : va_P D vwCl [(m, .inr (11, [_, .ref (a 1), .ref (a 2), _, _, _, .ref (a 6), .ref (a 7), .ref (a 8), .ref (a 9), .ref (a 10), .ref (a 11), .ref (a 12), .ref (a 13), .ref (a 14), .ref (a 15), _, _, .ref (a 18), .ref (a 19), .ref (a 20), .ref (a 21), .ref (a 22), .ref (a 23), .ref (a 24), .ref (a 25), _, _, .ref (a 28), _, _, .ref (a 31), .ref (a 32), .ref (a 33), _, _, _])), ((a 1), .inl (cI, 32, .inl _)), ((a 2), .inl (cI, 20, .inl _)), ((a 6), .inl (cI, 960, .inl _)), ((a 7), .inl (cI, 48, .inl _)), ((a 8), .inl (cI, 40, .inl _)), ((a 9), .inl (cI, 40, .inl _)), ((a 10), .inl (cI, 40, .inl _)), ((a 11), .inl (cI, 40, .inl _)), ((a 12), .inl (cI, 40, .inl _))] H := hP
            have hD : va_D A [(m, .inr (11, [_, .ref (a 1), .ref (a 2), _, _, _, .ref (a 6), .ref (a 7), .ref (a 8), .ref (a 9), .ref (a 10), .ref (a 11), .ref (a 12), .ref (a 13), .ref (a 14), .ref (a 15), _, _, .ref (a 18), .ref (a 19), .ref (a 20), .ref (a 21), .ref (a 22), .ref (a 23), .ref (a 24), .ref (a 25), _, _, .ref (a 28), _, _, .ref (a 31), .ref (a 32), .ref (a 33), _, _, _])), ((a 1), .inl (cI, 32, .inl _)), ((a 2), .inl (cI, 20, .inl _)), ((a 6), .inl (cI, 960, .inl _)), ((a 7), .inl (cI, 48, .inl _)), ((a 8), .inl (cI, 40, .inl _)), ((a 9), .inl (cI, 40, .inl _)), ((a 10), .inl (cI, 40, .inl _)), ((a 11), .inl (cI, 40, .inl _)), ((a 12), .inl (cI, 40, .inl _))] := hD
            refine lv_aload_n hx hb dX11_word_98 rfl (lv_at hl 1 rfl) ?_
            refine va_get (D := D) (ci := 11) (C := RX11) (T := TX11) (N := 37) hx hb hts in_X11 hown hK hP 0 rfl rfl 9 (by decide) fl_25 (fun _ h9 => h9) rfl dX11_word_99 ?_
            refine lv_aload_n hx hb dX11_word_102 rfl (lv_at hl 1 rfl) ?_
            refine va_get (D := D) (ci := 11) (C := RX11) (T := TX11) (N := 37) hx hb hts in_X11 hown hK hP 0 rfl rfl 4 (by decide) fl_90 (fun _ h9 => h9) rfl dX11_word_103 ?_
            refine lv_iload_n hx hb dX11_word_106 rfl (lv_at hl 3 rfl) ?_
            refine ast_n hx hb hK hP hD hS 6 0 rfl rfl h40 (by decide) dX11_word_107 (fun H locs hP hD hS => ?_)
            have hP : va_P D vwCl [(m, .inr (11, [_, .ref (a 1), .ref (a 2), _, _, _, .ref (a 6), .ref (a 7), .ref (a 8), .ref (a 9), .ref (a 10), .ref (a 11), .ref (a 12), .ref (a 13), .ref (a 14), .ref (a 15), _, _, .ref (a 18), .ref (a 19), .ref (a 20), .ref (a 21), .ref (a 22), .ref (a 23), .ref (a 24), .ref (a 25), _, _, .ref (a 28), _, _, .ref (a 31), .ref (a 32), .ref (a 33), _, _, _])), ((a 1), .inl (cI, 32, .inl _)), ((a 2), .inl (cI, 20, .inl _)), ((a 6), .inl (cI, 960, .inl _)), ((a 7), .inl (cI, 48, .inl _)), ((a 8), .inl (cI, 40, .inl _)), ((a 9), .inl (cI, 40, .inl _)), ((a 10), .inl (cI, 40, .inl _)), ((a 11), .inl (cI, 40, .inl _)), ((a 12), .inl (cI, 40, .inl _))] H := hP
            have hD : va_D A [(m, .inr (11, [_, .ref (a 1), .ref (a 2), _, _, _, .ref (a 6), .ref (a 7), .ref (a 8), .ref (a 9), .ref (a 10), .ref (a 11), .ref (a 12), .ref (a 13), .ref (a 14), .ref (a 15), _, _, .ref (a 18), .ref (a 19), .ref (a 20), .ref (a 21), .ref (a 22), .ref (a 23), .ref (a 24), .ref (a 25), _, _, .ref (a 28), _, _, .ref (a 31), .ref (a 32), .ref (a 33), _, _, _])), ((a 1), .inl (cI, 32, .inl _)), ((a 2), .inl (cI, 20, .inl _)), ((a 6), .inl (cI, 960, .inl _)), ((a 7), .inl (cI, 48, .inl _)), ((a 8), .inl (cI, 40, .inl _)), ((a 9), .inl (cI, 40, .inl _)), ((a 10), .inl (cI, 40, .inl _)), ((a 11), .inl (cI, 40, .inl _)), ((a 12), .inl (cI, 40, .inl _))] := hD
            refine lv_aload_n hx hb dX11_word_108 rfl (lv_at hl 1 rfl) ?_
            refine va_get (D := D) (ci := 11) (C := RX11) (T := TX11) (N := 37) hx hb hts in_X11 hown hK hP 0 rfl rfl 10 (by decide) fl_28 (fun _ h9 => h9) rfl dX11_word_109 ?_
            refine lv_aload_n hx hb dX11_word_112 rfl (lv_at hl 1 rfl) ?_
            refine va_get (D := D) (ci := 11) (C := RX11) (T := TX11) (N := 37) hx hb hts in_X11 hown hK hP 0 rfl rfl 4 (by decide) fl_90 (fun _ h9 => h9) rfl dX11_word_113 ?_
            refine lv_iconst (v := 0) hx hb dX11_word_116 (by decide) ?_
            refine ast_n hx hb hK hP hD hS 7 0 rfl rfl h40 (by decide) dX11_word_117 (fun H locs hP hD hS => ?_)
            have hP : va_P D vwCl [(m, .inr (11, [_, .ref (a 1), .ref (a 2), _, _, _, .ref (a 6), .ref (a 7), .ref (a 8), .ref (a 9), .ref (a 10), .ref (a 11), .ref (a 12), .ref (a 13), .ref (a 14), .ref (a 15), _, _, .ref (a 18), .ref (a 19), .ref (a 20), .ref (a 21), .ref (a 22), .ref (a 23), .ref (a 24), .ref (a 25), _, _, .ref (a 28), _, _, .ref (a 31), .ref (a 32), .ref (a 33), _, _, _])), ((a 1), .inl (cI, 32, .inl _)), ((a 2), .inl (cI, 20, .inl _)), ((a 6), .inl (cI, 960, .inl _)), ((a 7), .inl (cI, 48, .inl _)), ((a 8), .inl (cI, 40, .inl _)), ((a 9), .inl (cI, 40, .inl _)), ((a 10), .inl (cI, 40, .inl _)), ((a 11), .inl (cI, 40, .inl _)), ((a 12), .inl (cI, 40, .inl _))] H := hP
            have hD : va_D A [(m, .inr (11, [_, .ref (a 1), .ref (a 2), _, _, _, .ref (a 6), .ref (a 7), .ref (a 8), .ref (a 9), .ref (a 10), .ref (a 11), .ref (a 12), .ref (a 13), .ref (a 14), .ref (a 15), _, _, .ref (a 18), .ref (a 19), .ref (a 20), .ref (a 21), .ref (a 22), .ref (a 23), .ref (a 24), .ref (a 25), _, _, .ref (a 28), _, _, .ref (a 31), .ref (a 32), .ref (a 33), _, _, _])), ((a 1), .inl (cI, 32, .inl _)), ((a 2), .inl (cI, 20, .inl _)), ((a 6), .inl (cI, 960, .inl _)), ((a 7), .inl (cI, 48, .inl _)), ((a 8), .inl (cI, 40, .inl _)), ((a 9), .inl (cI, 40, .inl _)), ((a 10), .inl (cI, 40, .inl _)), ((a 11), .inl (cI, 40, .inl _)), ((a 12), .inl (cI, 40, .inl _))] := hD
            refine lv_aload_n hx hb dX11_word_118 rfl (lv_at hl 1 rfl) ?_
            refine va_get (D := D) (ci := 11) (C := RX11) (T := TX11) (N := 37) hx hb hts in_X11 hown hK hP 0 rfl rfl 11 (by decide) fl_31 (fun _ h9 => h9) rfl dX11_word_119 ?_
            refine lv_aload_n hx hb dX11_word_122 rfl (lv_at hl 1 rfl) ?_
            refine va_get (D := D) (ci := 11) (C := RX11) (T := TX11) (N := 37) hx hb hts in_X11 hown hK hP 0 rfl rfl 4 (by decide) fl_90 (fun _ h9 => h9) rfl dX11_word_123 ?_
            refine lv_iconst (v := -1) hx hb dX11_word_126 (by decide) ?_
            refine ast_n hx hb hK hP hD hS 8 0 rfl rfl h40 (by decide) dX11_word_127 (fun H locs hP hD hS => ?_)
            have hP : va_P D vwCl [(m, .inr (11, [_, .ref (a 1), .ref (a 2), _, _, _, .ref (a 6), .ref (a 7), .ref (a 8), .ref (a 9), .ref (a 10), .ref (a 11), .ref (a 12), .ref (a 13), .ref (a 14), .ref (a 15), _, _, .ref (a 18), .ref (a 19), .ref (a 20), .ref (a 21), .ref (a 22), .ref (a 23), .ref (a 24), .ref (a 25), _, _, .ref (a 28), _, _, .ref (a 31), .ref (a 32), .ref (a 33), _, _, _])), ((a 1), .inl (cI, 32, .inl _)), ((a 2), .inl (cI, 20, .inl _)), ((a 6), .inl (cI, 960, .inl _)), ((a 7), .inl (cI, 48, .inl _)), ((a 8), .inl (cI, 40, .inl _)), ((a 9), .inl (cI, 40, .inl _)), ((a 10), .inl (cI, 40, .inl _)), ((a 11), .inl (cI, 40, .inl _)), ((a 12), .inl (cI, 40, .inl _))] H := hP
            have hD : va_D A [(m, .inr (11, [_, .ref (a 1), .ref (a 2), _, _, _, .ref (a 6), .ref (a 7), .ref (a 8), .ref (a 9), .ref (a 10), .ref (a 11), .ref (a 12), .ref (a 13), .ref (a 14), .ref (a 15), _, _, .ref (a 18), .ref (a 19), .ref (a 20), .ref (a 21), .ref (a 22), .ref (a 23), .ref (a 24), .ref (a 25), _, _, .ref (a 28), _, _, .ref (a 31), .ref (a 32), .ref (a 33), _, _, _])), ((a 1), .inl (cI, 32, .inl _)), ((a 2), .inl (cI, 20, .inl _)), ((a 6), .inl (cI, 960, .inl _)), ((a 7), .inl (cI, 48, .inl _)), ((a 8), .inl (cI, 40, .inl _)), ((a 9), .inl (cI, 40, .inl _)), ((a 10), .inl (cI, 40, .inl _)), ((a 11), .inl (cI, 40, .inl _)), ((a 12), .inl (cI, 40, .inl _))] := hD
            refine lv_aload_n hx hb dX11_word_128 rfl (lv_at hl 1 rfl) ?_
            refine va_get (D := D) (ci := 11) (C := RX11) (T := TX11) (N := 37) hx hb hts in_X11 hown hK hP 0 rfl rfl 12 (by decide) fl_34 (fun _ h9 => h9) rfl dX11_word_129 ?_
            refine lv_aload_n hx hb dX11_word_132 rfl (lv_at hl 1 rfl) ?_
            refine va_get (D := D) (ci := 11) (C := RX11) (T := TX11) (N := 37) hx hb hts in_X11 hown hK hP 0 rfl rfl 4 (by decide) fl_90 (fun _ h9 => h9) rfl dX11_word_133 ?_
            refine lv_iconst (v := 0) hx hb dX11_word_136 (by decide) ?_
            refine ast_n hx hb hK hP hD hS 9 0 rfl rfl h40 (by decide) dX11_word_137 (fun H locs hP hD hS => ?_)
            have hP : va_P D vwCl [(m, .inr (11, [_, .ref (a 1), .ref (a 2), _, _, _, .ref (a 6), .ref (a 7), .ref (a 8), .ref (a 9), .ref (a 10), .ref (a 11), .ref (a 12), .ref (a 13), .ref (a 14), .ref (a 15), _, _, .ref (a 18), .ref (a 19), .ref (a 20), .ref (a 21), .ref (a 22), .ref (a 23), .ref (a 24), .ref (a 25), _, _, .ref (a 28), _, _, .ref (a 31), .ref (a 32), .ref (a 33), _, _, _])), ((a 1), .inl (cI, 32, .inl _)), ((a 2), .inl (cI, 20, .inl _)), ((a 6), .inl (cI, 960, .inl _)), ((a 7), .inl (cI, 48, .inl _)), ((a 8), .inl (cI, 40, .inl _)), ((a 9), .inl (cI, 40, .inl _)), ((a 10), .inl (cI, 40, .inl _)), ((a 11), .inl (cI, 40, .inl _)), ((a 12), .inl (cI, 40, .inl _))] H := hP
            have hD : va_D A [(m, .inr (11, [_, .ref (a 1), .ref (a 2), _, _, _, .ref (a 6), .ref (a 7), .ref (a 8), .ref (a 9), .ref (a 10), .ref (a 11), .ref (a 12), .ref (a 13), .ref (a 14), .ref (a 15), _, _, .ref (a 18), .ref (a 19), .ref (a 20), .ref (a 21), .ref (a 22), .ref (a 23), .ref (a 24), .ref (a 25), _, _, .ref (a 28), _, _, .ref (a 31), .ref (a 32), .ref (a 33), _, _, _])), ((a 1), .inl (cI, 32, .inl _)), ((a 2), .inl (cI, 20, .inl _)), ((a 6), .inl (cI, 960, .inl _)), ((a 7), .inl (cI, 48, .inl _)), ((a 8), .inl (cI, 40, .inl _)), ((a 9), .inl (cI, 40, .inl _)), ((a 10), .inl (cI, 40, .inl _)), ((a 11), .inl (cI, 40, .inl _)), ((a 12), .inl (cI, 40, .inl _))] := hD
            refine lv_aload_n hx hb dX11_word_138 rfl (lv_at hl 1 rfl) ?_
            refine lv_dup hx hb dX11_word_139 rfl ?_
            refine va_get (D := D) (ci := 11) (C := RX11) (T := TX11) (N := 37) hx hb hts in_X11 hown hK hP 0 rfl rfl 4 (by decide) fl_90 (fun _ h9 => h9) rfl dX11_word_140 ?_
            refine lv_iconst (v := 1) hx hb dX11_word_143 (by decide) ?_
            refine lv_iadd hx hb dX11_word_144 ?_
            refine topi_eq (nI_1 nw) ?_
            refine va_put (D := D) (ci := 11) (ty := .int) (C := RX11) (T := TX11) (N := 37) hx hb hts in_X11 tyX11 tyX11_ok nmX11 hown hK hP hD hS 0 rfl rfl 4 (by decide) fl_90 (fun _ h9 => h9) rfl (by decide +kernel) rfl rfl (Nat.le_of_ble_eq_true rfl) dX11_word_145 (fun H locs hP hD hS => ?_)
            have hP : va_P D vwCl [(m, .inr (11, [_, .ref (a 1), .ref (a 2), _, _, _, .ref (a 6), .ref (a 7), .ref (a 8), .ref (a 9), .ref (a 10), .ref (a 11), .ref (a 12), .ref (a 13), .ref (a 14), .ref (a 15), _, _, .ref (a 18), .ref (a 19), .ref (a 20), .ref (a 21), .ref (a 22), .ref (a 23), .ref (a 24), .ref (a 25), _, _, .ref (a 28), _, _, .ref (a 31), .ref (a 32), .ref (a 33), _, _, _])), ((a 1), .inl (cI, 32, .inl _)), ((a 2), .inl (cI, 20, .inl _)), ((a 6), .inl (cI, 960, .inl _)), ((a 7), .inl (cI, 48, .inl _)), ((a 8), .inl (cI, 40, .inl _)), ((a 9), .inl (cI, 40, .inl _)), ((a 10), .inl (cI, 40, .inl _)), ((a 11), .inl (cI, 40, .inl _)), ((a 12), .inl (cI, 40, .inl _))] H := hP
            have hD : va_D A [(m, .inr (11, [_, .ref (a 1), .ref (a 2), _, _, _, .ref (a 6), .ref (a 7), .ref (a 8), .ref (a 9), .ref (a 10), .ref (a 11), .ref (a 12), .ref (a 13), .ref (a 14), .ref (a 15), _, _, .ref (a 18), .ref (a 19), .ref (a 20), .ref (a 21), .ref (a 22), .ref (a 23), .ref (a 24), .ref (a 25), _, _, .ref (a 28), _, _, .ref (a 31), .ref (a 32), .ref (a 33), _, _, _])), ((a 1), .inl (cI, 32, .inl _)), ((a 2), .inl (cI, 20, .inl _)), ((a 6), .inl (cI, 960, .inl _)), ((a 7), .inl (cI, 48, .inl _)), ((a 8), .inl (cI, 40, .inl _)), ((a 9), .inl (cI, 40, .inl _)), ((a 10), .inl (cI, 40, .inl _)), ((a 11), .inl (cI, 40, .inl _)), ((a 12), .inl (cI, 40, .inl _))] := hD
            refine lv_aload_n hx hb dX11_word_148 rfl (lv_at hl 1 rfl) ?_
            refine va_get (D := D) (ci := 11) (C := RX11) (T := TX11) (N := 37) hx hb hts in_X11 hown hK hP 0 rfl rfl 4 (by decide) fl_90 (fun _ h9 => h9) rfl dX11_word_149 ?_
            refine lv_iconst (v := 1) hx hb dX11_word_152 (by decide) ?_
            refine lv_isub hx hb dX11_word_153 ?_
            exact mu_iret X hP hS (pk_sub (a := nw + 1) (b := 1) (by omega)) (rfl) dX11_word_154
          · exact absurd ((nI_eq (a := nw) (b := 40) (by omega) (by decide)).mp c_74) (by omega)
        · exact absurd (show oI none < 0 by decide) c_48
      · exact absurd ((nI_eq (a := dn) (b := 0) (by omega) (by decide)).mp c_26) h0
    · replace c_16 := bI_0.mp c_16
      exact absurd hok (fun q => by simp only [okW, Bool.and_eq_true, ← inL] at q; first | (rw [c_16] at q; exact absurd q.2 (by decide)) | (rw [c_6] at q; exact absurd q.1 (by decide)))

set_option maxHeartbeats 1000000 in
set_option maxRecDepth 100000 in
theorem c_X11_value_n {l : Launch} {D : va_G} {cI cJ cW : ClassId} {m : Nat} {a : Nat → Nat} {ct dn nw nj n tn tc mm : Nat} {τ : TS} {fu am pb : Int32} {F : Nat → Nat → Int32} {y e : Int32} {wz : Nat → Nat → Int32} {wn : Nat → Nat} {wt : Nat → Nat → Int32} (hnw : nw ≤ 40) (hrw : RW F nw wz wn wt) (hno : ∀ j, j < nw → y = nI j → ¬ ((!decide (e < 0) && decide (e ≤ 1000)) = true ∧ ¬ wz j 2 &&& 32 = 0)) : RO l yX11_value wsX11_value { frames := 2, cells := 0, slots := 0, locals := 43 } D (ty3 cI cJ cW) [.ref m, .int y, .int e] [(m, .inr (11, [.int (nI ct), .ref (a 1), .ref (a 2), .int (nI dn), .int (nI nw), .int (nI nj), .ref (a 6), .ref (a 7), .ref (a 8), .ref (a 9), .ref (a 10), .ref (a 11), .ref (a 12), .ref (a 13), .ref (a 14), .ref (a 15), .int (nI n), .int (nI tn), .ref (a 18), .ref (a 19), .ref (a 20), .ref (a 21), .ref (a 22), .ref (a 23), .ref (a 24), .ref (a 25), .int (nI τ.1), .int (τ.2.1), .ref (a 28), .int (nI tc), .int (nI mm), .ref (a 31), .ref (a 32), .ref (a 33), .int (fu), .int (am), .int (pb)])), ((a 9), .inl (cI, 40, .inl (F 9))), ((a 10), .inl (cI, 40, .inl (F 10)))] (.int (aValueN nw wz y e)) := by
  refine ro_of (cc := cX11_value) (maxL := 4) (ret := (some .int)) (by decide) rfl (Nat.le_of_ble_eq_true rfl) ?_
  intro pr en ss mi below meth cd X hP hK ls hl
  obtain ⟨hx, hb, hml, hown, hts, hr, hlocks⟩ := id X
  have hl : lv_has ls 4 [(0, .ref m), (1, .int y), (2, .int e)] := hl
  refine lv_aload_n hx hb dX11_value_0 rfl (lv_at hl 0 rfl) ?_
  refine lv_iload_n hx hb dX11_value_1 rfl (lv_at hl 1 rfl) ?_
  refine ro_V (n := 1) X hK (c_X11_isWord hnw) gX11_value_X11_isWord rfl (by decide +kernel) ⟨rfl, rfl⟩ ⟨Nat.le_of_ble_eq_true rfl, Nat.le_of_ble_eq_true rfl⟩ (hP.sub [0] rfl) (va_recv hK hP (ci := 11) (q0 := 0) rfl rfl) rfl hl.1 rfl (Nat.le_of_ble_eq_true rfl) dX11_value_2 ⟨Nat.zero_le _, Nat.zero_le _⟩ ?_
  refine lv_if_ne (tgt := 11) hx hb dX11_value_5 (by decide) (fun c_5 => ?_) (fun c_5 => ?_)
  · replace c_5 := bI_n0.mp c_5
    obtain ⟨j, hj, rfl⟩ := is_ix c_5 (show nw < 2 ^ 31 by omega)
    refine lv_iload_n hx hb dX11_value_11 rfl (lv_at hl 2 rfl) ?_
    refine lv_iconst (v := 0) hx hb dX11_value_12 (by decide) ?_
    refine lv_sipush (v := 1000) hx hb dX11_value_13 (by decide) ?_
    refine ro_S (n := 3) X hK (c_X11_in) gX11_value_X11_in rfl (by decide +kernel) ⟨rfl, rfl⟩ ⟨Nat.le_of_ble_eq_true rfl, Nat.le_of_ble_eq_true rfl⟩ (hP.sub [] rfl) rfl hl.1 rfl (Nat.le_of_ble_eq_true rfl) dX11_value_16 ⟨Nat.zero_le _, Nat.zero_le _⟩ ?_
    refine lv_if_ne (tgt := 25) hx hb dX11_value_19 (by decide) (fun c_19 => ?_) (fun c_19 => ?_)
    · replace c_19 := bI_n0.mp c_19
      have hv : (!decide (e < 0) && decide (e ≤ 1000)) = true := by rw [← inV]; exact c_19
      have hkd : kdB (F 9 j) 5 = decide (¬ wz j 2 &&& 32 = 0) := by obtain ⟨q, hq, e⟩ := (hrw j hj).2.2.2.2.2.2.2.2; rw [(hrw j hj).2.2.2.2.1, e]; exact kd5 q hq
      refine lv_aload_n hx hb dX11_value_25 rfl (lv_at hl 0 rfl) ?_
      refine lv_iload_n hx hb dX11_value_26 rfl (lv_at hl 1 rfl) ?_
      refine lv_iconst (v := 5) hx hb dX11_value_27 (by decide) ?_
      refine ro_V (n := 2) X hK (c_X11_isKind (F := F) (show j < 40 by omega)) gX11_value_X11_isKind rfl (by decide +kernel) ⟨rfl, rfl⟩ ⟨Nat.le_of_ble_eq_true rfl, Nat.le_of_ble_eq_true rfl⟩ (hP.sub [0, 1] rfl) (va_recv hK hP (ci := 11) (q0 := 0) rfl rfl) rfl hl.1 rfl (Nat.le_of_ble_eq_true rfl) dX11_value_28 ⟨Nat.zero_le _, Nat.zero_le _⟩ ?_
      refine lv_if_ne (tgt := 37) hx hb dX11_value_31 (by decide) (fun c_31 => ?_) (fun c_31 => ?_)
      · replace c_31 := bI_n0.mp c_31
        exact absurd ⟨hv, by rw [hkd] at c_31; exact of_decide_eq_true c_31⟩ (hno j hj rfl)
      · replace c_31 := bI_0.mp c_31
        refine lv_bipush (v := -4) hx hb dX11_value_34 (by decide) ?_
        exact ro_iret X (by rw [hkd] at c_31; rw [aValueN, ixO_nI hj (by omega)]; simp only []; rw [if_pos hv, if_pos (Classical.not_not.mp (of_decide_eq_false c_31))]) dX11_value_36
    · replace c_19 := bI_0.mp c_19
      have hv : (!decide (e < 0) && decide (e ≤ 1000)) = false := by rw [← inV]; exact c_19
      refine lv_bipush (v := -3) hx hb dX11_value_22 (by decide) ?_
      exact ro_iret X (by rw [aValueN, ixO_nI hj (by omega)]; simp only []; rw [if_neg (by rw [hv]; decide)]) dX11_value_24
  · replace c_5 := bI_0.mp c_5
    refine lv_bipush (v := -2) hx hb dX11_value_8 (by decide) ?_
    exact ro_iret X (by rw [aValueN, no_ix c_5]) dX11_value_10

set_option maxHeartbeats 1000000 in
set_option maxRecDepth 100000 in
theorem c_X11_value {l : Launch} {D : va_G} {cI cJ cW : ClassId} {sz : Nat} {m : Nat} {a : Nat → Nat} {ct dn nw nj n tn tc mm : Nat} {τ : TS} {fu am pb : Int32} {F : Nat → Nat → Int32} {e : Int32} {j : Nat} {wz : Nat → Nat → Int32} {wn : Nat → Nat} {wt : Nat → Nat → Int32} (hnw : nw ≤ 40) (hrw : RW F nw wz wn wt) (hj : j < nw) (hok : (!decide (e < 0) && decide (e ≤ 1000)) = true) (hk2 : ¬ wz j 2 &&& 32 = 0) : MU l yX11_value wsX11_value { frames := 2, cells := 0, slots := 0, locals := 43 } D (ty3 cI cJ cW) [.ref m, .int (nI j), .int e] [(m, .inr (11, [.int (nI ct), .ref (a 1), .ref (a 2), .int (nI dn), .int (nI nw), .int (nI nj), .ref (a 6), .ref (a 7), .ref (a 8), .ref (a 9), .ref (a 10), .ref (a 11), .ref (a 12), .ref (a 13), .ref (a 14), .ref (a 15), .int (nI n), .int (nI tn), .ref (a 18), .ref (a 19), .ref (a 20), .ref (a 21), .ref (a 22), .ref (a 23), .ref (a 24), .ref (a 25), .int (nI τ.1), .int (τ.2.1), .ref (a 28), .int (nI tc), .int (nI mm), .ref (a 31), .ref (a 32), .ref (a 33), .int (fu), .int (am), .int (pb)])), ((a 9), .inl (cI, 40, .inl (F 9))), ((a 10), .inl (cI, 40, .inl (F 10)))] sz (some (.int (wz j 3))) [(m, .inr (11, [.int (nI ct), .ref (a 1), .ref (a 2), .int (nI dn), .int (nI nw), .int (nI nj), .ref (a 6), .ref (a 7), .ref (a 8), .ref (a 9), .ref (a 10), .ref (a 11), .ref (a 12), .ref (a 13), .ref (a 14), .ref (a 15), .int (nI n), .int (nI tn), .ref (a 18), .ref (a 19), .ref (a 20), .ref (a 21), .ref (a 22), .ref (a 23), .ref (a 24), .ref (a 25), .int (nI τ.1), .int (τ.2.1), .ref (a 28), .int (nI tc), .int (nI mm), .ref (a 31), .ref (a 32), .ref (a 33), .int (fu), .int (am), .int (pb)])), ((a 9), .inl (cI, 40, .inl (F 9))), ((a 10), .inl (cI, 40, .inl (upd (F 10) j e)))] := by
  refine mu_of (cc := cX11_value) (maxL := 4) (ret := (some .int)) (by decide) rfl (Nat.le_of_ble_eq_true rfl) ?_
  intro pr en ss mi below meth cd X hK A hA hP hD hS ls hl
  obtain ⟨hx, hb, hml, hown, hts, hr, hlocks⟩ := id X
  have fl_28 := hts (.fieldLink RX11 28 "WordTablesModel" "value" "[I") (by decide +kernel)
  have in_X11 : ∀ w ∈ wsX110, w ∈ wsX11_value := by decide +kernel
  have hl : lv_has ls 4 [(0, .ref m), (1, .int (nI j)), (2, .int e)] := hl
  refine lv_aload_n hx hb dX11_value_0 rfl (lv_at hl 0 rfl) ?_
  refine lv_iload_n hx hb dX11_value_1 rfl (lv_at hl 1 rfl) ?_
  refine ro_V (n := 1) X hK (c_X11_isWord hnw) gX11_value_X11_isWord rfl (by decide +kernel) ⟨rfl, rfl⟩ ⟨Nat.le_of_ble_eq_true rfl, Nat.le_of_ble_eq_true rfl⟩ (hP.sub [0] rfl) (va_recv hK hP (ci := 11) (q0 := 0) rfl rfl) rfl hl.1 rfl (Nat.le_of_ble_eq_true rfl) dX11_value_2 ⟨Nat.zero_le _, Nat.zero_le _⟩ ?_
  refine lv_if_ne (tgt := 11) hx hb dX11_value_5 (by decide) (fun c_5 => ?_) (fun c_5 => ?_)
  · replace c_5 := bI_n0.mp c_5
    refine lv_iload_n hx hb dX11_value_11 rfl (lv_at hl 2 rfl) ?_
    refine lv_iconst (v := 0) hx hb dX11_value_12 (by decide) ?_
    refine lv_sipush (v := 1000) hx hb dX11_value_13 (by decide) ?_
    refine ro_S (n := 3) X hK (c_X11_in) gX11_value_X11_in rfl (by decide +kernel) ⟨rfl, rfl⟩ ⟨Nat.le_of_ble_eq_true rfl, Nat.le_of_ble_eq_true rfl⟩ (hP.sub [] rfl) rfl hl.1 rfl (Nat.le_of_ble_eq_true rfl) dX11_value_16 ⟨Nat.zero_le _, Nat.zero_le _⟩ ?_
    refine lv_if_ne (tgt := 25) hx hb dX11_value_19 (by decide) (fun c_19 => ?_) (fun c_19 => ?_)
    · replace c_19 := bI_n0.mp c_19
      have hkd : kdB (F 9 j) 5 = decide (¬ wz j 2 &&& 32 = 0) := by obtain ⟨q, hq, e⟩ := (hrw j hj).2.2.2.2.2.2.2.2; rw [(hrw j hj).2.2.2.2.1, e]; exact kd5 q hq
      refine lv_aload_n hx hb dX11_value_25 rfl (lv_at hl 0 rfl) ?_
      refine lv_iload_n hx hb dX11_value_26 rfl (lv_at hl 1 rfl) ?_
      refine lv_iconst (v := 5) hx hb dX11_value_27 (by decide) ?_
      refine ro_V (n := 2) X hK (c_X11_isKind (F := F) (show j < 40 by omega)) gX11_value_X11_isKind rfl (by decide +kernel) ⟨rfl, rfl⟩ ⟨Nat.le_of_ble_eq_true rfl, Nat.le_of_ble_eq_true rfl⟩ (hP.sub [0, 1] rfl) (va_recv hK hP (ci := 11) (q0 := 0) rfl rfl) rfl hl.1 rfl (Nat.le_of_ble_eq_true rfl) dX11_value_28 ⟨Nat.zero_le _, Nat.zero_le _⟩ ?_
      refine lv_if_ne (tgt := 37) hx hb dX11_value_31 (by decide) (fun c_31 => ?_) (fun c_31 => ?_)
      · replace c_31 := bI_n0.mp c_31
        refine lv_aload_n hx hb dX11_value_37 rfl (lv_at hl 0 rfl) ?_
        refine va_get (D := D) (ci := 11) (C := RX11) (T := TX11) (N := 37) hx hb hts in_X11 hown hK hP 0 rfl rfl 10 (by decide) fl_28 (fun _ h9 => h9) rfl dX11_value_38 ?_
        refine lv_iload_n hx hb dX11_value_41 rfl (lv_at hl 1 rfl) ?_
        refine ald_n hx hb hK hP 2 0 rfl rfl (show j < 40 by omega) (by first | decide | omega) dX11_value_42 ?_
        refine lv_istore_n (lv' := [(3, _), (0, _), (1, _), (2, _)]) hx hb dX11_value_43 rfl hl (by decide) rfl (fun ls hl => ?_)
        refine lv_aload_n hx hb dX11_value_44 rfl (lv_at hl 1 rfl) ?_
        refine va_get (D := D) (ci := 11) (C := RX11) (T := TX11) (N := 37) hx hb hts in_X11 hown hK hP 0 rfl rfl 10 (by decide) fl_28 (fun _ h9 => h9) rfl dX11_value_45 ?_
        refine lv_iload_n hx hb dX11_value_48 rfl (lv_at hl 2 rfl) ?_
        refine lv_iload_n hx hb dX11_value_49 rfl (lv_at hl 3 rfl) ?_
        refine ast_n hx hb hK hP hD hS 2 0 rfl rfl (show j < 40 by omega) (by decide) dX11_value_50 (fun H locs hP hD hS => ?_)
        have hP : va_P D vwCl [(m, .inr (11, [_, .ref (a 1), .ref (a 2), _, _, _, .ref (a 6), .ref (a 7), .ref (a 8), .ref (a 9), .ref (a 10), .ref (a 11), .ref (a 12), .ref (a 13), .ref (a 14), .ref (a 15), _, _, .ref (a 18), .ref (a 19), .ref (a 20), .ref (a 21), .ref (a 22), .ref (a 23), .ref (a 24), .ref (a 25), _, _, .ref (a 28), _, _, .ref (a 31), .ref (a 32), .ref (a 33), _, _, _])), ((a 9), .inl (cI, 40, .inl _)), ((a 10), .inl (cI, 40, .inl _))] H := hP
        have hD : va_D A [(m, .inr (11, [_, .ref (a 1), .ref (a 2), _, _, _, .ref (a 6), .ref (a 7), .ref (a 8), .ref (a 9), .ref (a 10), .ref (a 11), .ref (a 12), .ref (a 13), .ref (a 14), .ref (a 15), _, _, .ref (a 18), .ref (a 19), .ref (a 20), .ref (a 21), .ref (a 22), .ref (a 23), .ref (a 24), .ref (a 25), _, _, .ref (a 28), _, _, .ref (a 31), .ref (a 32), .ref (a 33), _, _, _])), ((a 9), .inl (cI, 40, .inl _)), ((a 10), .inl (cI, 40, .inl _))] := hD
        refine lv_iload_n hx hb dX11_value_51 rfl (lv_at hl 0 rfl) ?_
        exact mu_iret X hP hS ((hrw j hj).2.2.2.2.2.1) (rfl) dX11_value_52
      · replace c_31 := bI_0.mp c_31
        exact absurd c_31 (by rw [hkd]; simp [hk2])
    · replace c_19 := bI_0.mp c_19
      exact absurd hok (by rw [← inV, c_19]; decide)
  · replace c_5 := bI_0.mp c_5
    exact absurd c_5 (by rw [ixO_nI hj (by omega)]; simp)

theorem alB_lt {tc : Nat} {e : Int32} (htc : tc ≤ 12) : ((e < 0 ∨ ¬ e < (1 : Int32) <<< (nI tc &&& 31)) → alB (nI tc) e = false) ∧ (¬ e < 0 → e < (1 : Int32) <<< (nI tc &&& 31) → alB (nI tc) e = true) := by
  have hs : (1 : Int32) <<< (nI tc &&& 31) = nI (2 ^ tc) := by
    have : ∀ t, t ≤ 12 → (1 : Int32) <<< (nI t &&& 31) = nI (2 ^ t) := by decide +kernel
    exact this tc htc
  have hu : (((nI tc).toUInt32 &&& Int32.toUInt32 31).toBitVec % 32).toNat = tc := by
    have : ∀ t, t ≤ 12 → (((nI t).toUInt32 &&& Int32.toUInt32 31).toBitVec % 32).toNat = t := by decide +kernel
    exact this tc htc
  have hp : 2 ^ tc ≤ 4096 := by
    have : 2 ^ tc ≤ 2 ^ 12 := Nat.pow_le_pow_right (by decide) htc
    exact this
  have hpos : 0 < 2 ^ tc := Nat.two_pow_pos tc
  have hk := pk_ushr e (nI tc) tc hu
  have h0 : ((e.toUInt32 >>> ((nI tc).toUInt32 &&& Int32.toUInt32 31)).toInt32 = 0) ↔ e.toBitVec.toNat / 2 ^ tc = 0 := by
    rw [← hk]
    constructor
    · intro h; rw [h]; rfl
    · intro h; apply Int32.toBitVec_inj.mp; apply BitVec.eq_of_toNat_eq; rw [h]; rfl
  rw [hs]
  rcases pk_ix e (n := 2 ^ tc) (by omega) with q | q | ⟨j, hj, rfl⟩
  · refine ⟨fun _ => ?_, fun h => absurd q h⟩
    rw [alB, decide_eq_false_iff_not, h0]
    have hbig : 2 ^ 31 ≤ e.toBitVec.toNat := by
      rw [Int32.lt_iff_toInt_lt] at q
      have e1 : e.toInt = e.toBitVec.toInt := rfl
      have : (0 : Int32).toInt = 0 := rfl
      rw [e1, BitVec.toInt_eq_toNat_cond] at q
      split at q <;> omega
    intro h
    have := (Nat.div_eq_zero_iff).mp h
    omega
  · refine ⟨fun _ => ?_, fun _ h => absurd h (Int32.not_lt.mpr q)⟩
    rw [alB, decide_eq_false_iff_not, h0]
    by_cases hneg : e < 0
    · exact absurd (Int32.le_trans (nI_pos' (n := 2 ^ tc) (by omega)) q) (Int32.not_le.mpr hneg)
    obtain ⟨j, hj, rfl⟩ := nI_of hneg
    rw [pk_tn (by omega)]
    have := (nI_leI (a := 2 ^ tc) (b := j) (by omega) hj).mp q
    intro h
    have := (Nat.div_eq_zero_iff).mp h
    omega
  · refine ⟨fun h => ?_, fun _ _ => ?_⟩
    · rcases h with h | h
      · exact absurd h (nI_pos (by omega))
      · exact absurd (nI_lt hj (by omega)) h
    · rw [alB, decide_eq_true_eq, h0, pk_tn (by omega)]
      exact Nat.div_eq_of_lt hj

set_option maxHeartbeats 1000000 in
set_option maxRecDepth 100000 in
theorem c_X11_refer_n {l : Launch} {D : va_G} {cI cJ cW : ClassId} {m : Nat} {a : Nat → Nat} {ct dn nw nj n tn tc mm : Nat} {τ : TS} {fu am pb : Int32} {F : Nat → Nat → Int32} {y e : Int32} {wz : Nat → Nat → Int32} {wn : Nat → Nat} {wt : Nat → Nat → Int32} (hnw : nw ≤ 40) (hrw : RW F nw wz wn wt) (htc : tc ≤ 12) (hno : ∀ j, j < nw → y = nI j → ¬ (alB (nI tc) e = true ∧ ¬ wz j 2 &&& 16 = 0)) : RO l yX11_refer wsX11_refer { frames := 2, cells := 0, slots := 0, locals := 43 } D (ty3 cI cJ cW) [.ref m, .int y, .int e] [(m, .inr (11, [.int (nI ct), .ref (a 1), .ref (a 2), .int (nI dn), .int (nI nw), .int (nI nj), .ref (a 6), .ref (a 7), .ref (a 8), .ref (a 9), .ref (a 10), .ref (a 11), .ref (a 12), .ref (a 13), .ref (a 14), .ref (a 15), .int (nI n), .int (nI tn), .ref (a 18), .ref (a 19), .ref (a 20), .ref (a 21), .ref (a 22), .ref (a 23), .ref (a 24), .ref (a 25), .int (nI τ.1), .int (τ.2.1), .ref (a 28), .int (nI tc), .int (nI mm), .ref (a 31), .ref (a 32), .ref (a 33), .int (fu), .int (am), .int (pb)])), ((a 9), .inl (cI, 40, .inl (F 9))), ((a 12), .inl (cI, 40, .inl (F 12)))] (.int (aReferN nw tc wz y e)) := by
  refine ro_of (cc := cX11_refer) (maxL := 4) (ret := (some .int)) (by decide) rfl (Nat.le_of_ble_eq_true rfl) ?_
  intro pr en ss mi below meth cd X hP hK ls hl
  obtain ⟨hx, hb, hml, hown, hts, hr, hlocks⟩ := id X
  have fl_185 := hts (.fieldLink RX11 185 "WordTablesModel" "things" "I") (by decide +kernel)
  have in_X11 : ∀ w ∈ wsX110, w ∈ wsX11_refer := by decide +kernel
  have hl : lv_has ls 4 [(0, .ref m), (1, .int y), (2, .int e)] := hl
  refine lv_aload_n hx hb dX11_refer_0 rfl (lv_at hl 0 rfl) ?_
  refine lv_iload_n hx hb dX11_refer_1 rfl (lv_at hl 1 rfl) ?_
  refine ro_V (n := 1) X hK (c_X11_isWord hnw) gX11_refer_X11_isWord rfl (by decide +kernel) ⟨rfl, rfl⟩ ⟨Nat.le_of_ble_eq_true rfl, Nat.le_of_ble_eq_true rfl⟩ (hP.sub [0] rfl) (va_recv hK hP (ci := 11) (q0 := 0) rfl rfl) rfl hl.1 rfl (Nat.le_of_ble_eq_true rfl) dX11_refer_2 ⟨Nat.zero_le _, Nat.zero_le _⟩ ?_
  refine lv_if_ne (tgt := 11) hx hb dX11_refer_5 (by decide) (fun c_5 => ?_) (fun c_5 => ?_)
  · replace c_5 := bI_n0.mp c_5
    obtain ⟨j, hj, rfl⟩ := is_ix c_5 (show nw < 2 ^ 31 by omega)
    refine lv_iload_n hx hb dX11_refer_11 rfl (lv_at hl 2 rfl) ?_
    refine lv_if_lt (tgt := 25) hx hb dX11_refer_12 (by decide) (fun c_12 => ?_) (fun c_12 => ?_)
    · have hv : alB (nI tc) e = false := by first | exact (alB_lt htc).1 (Or.inl c_12) | exact (alB_lt htc).1 (Or.inr c_22)
      refine lv_bipush (v := -3) hx hb dX11_refer_25 (by decide) ?_
      exact ro_iret X (by rw [aReferN, ixO_nI hj (by omega)]; simp only []; rw [if_neg (by rw [hv]; decide)]) dX11_refer_27
    · refine lv_iload_n hx hb dX11_refer_15 rfl (lv_at hl 2 rfl) ?_
      refine lv_iconst (v := 1) hx hb dX11_refer_16 (by decide) ?_
      refine lv_aload_n hx hb dX11_refer_17 rfl (lv_at hl 0 rfl) ?_
      refine va_get (D := D) (ci := 11) (C := RX11) (T := TX11) (N := 37) hx hb hts in_X11 hown hK hP 0 rfl rfl 29 (by decide) fl_185 (fun _ h9 => h9) rfl dX11_refer_18 ?_
      refine lv_ishl hx hb dX11_refer_21 ?_
      refine lv_icmp_lt (tgt := 28) hx hb dX11_refer_22 (by decide) (fun c_22 => ?_) (fun c_22 => ?_)
      · have hv : alB (nI tc) e = true := (alB_lt htc).2 c_12 c_22
        have hkd : kdB (F 9 j) 4 = decide (¬ wz j 2 &&& 16 = 0) := by obtain ⟨q, hq, e⟩ := (hrw j hj).2.2.2.2.2.2.2.2; rw [(hrw j hj).2.2.2.2.1, e]; exact kd4 q hq
        refine lv_aload_n hx hb dX11_refer_28 rfl (lv_at hl 0 rfl) ?_
        refine lv_iload_n hx hb dX11_refer_29 rfl (lv_at hl 1 rfl) ?_
        refine lv_iconst (v := 4) hx hb dX11_refer_30 (by decide) ?_
        refine ro_V (n := 2) X hK (c_X11_isKind (F := F) (show j < 40 by omega)) gX11_refer_X11_isKind rfl (by decide +kernel) ⟨rfl, rfl⟩ ⟨Nat.le_of_ble_eq_true rfl, Nat.le_of_ble_eq_true rfl⟩ (hP.sub [0, 1] rfl) (va_recv hK hP (ci := 11) (q0 := 0) rfl rfl) rfl hl.1 rfl (Nat.le_of_ble_eq_true rfl) dX11_refer_31 ⟨Nat.zero_le _, Nat.zero_le _⟩ ?_
        refine lv_if_ne (tgt := 40) hx hb dX11_refer_34 (by decide) (fun c_34 => ?_) (fun c_34 => ?_)
        · replace c_34 := bI_n0.mp c_34
          exact absurd ⟨hv, by rw [hkd] at c_34; exact of_decide_eq_true c_34⟩ (hno j hj rfl)
        · replace c_34 := bI_0.mp c_34
          refine lv_bipush (v := -4) hx hb dX11_refer_37 (by decide) ?_
          exact ro_iret X (by rw [hkd] at c_34; rw [aReferN, ixO_nI hj (by omega)]; simp only []; rw [if_pos hv, if_pos (Classical.not_not.mp (of_decide_eq_false c_34))]) dX11_refer_39
      · have hv : alB (nI tc) e = false := by first | exact (alB_lt htc).1 (Or.inl c_12) | exact (alB_lt htc).1 (Or.inr c_22)
        refine lv_bipush (v := -3) hx hb dX11_refer_25 (by decide) ?_
        exact ro_iret X (by rw [aReferN, ixO_nI hj (by omega)]; simp only []; rw [if_neg (by rw [hv]; decide)]) dX11_refer_27
  · replace c_5 := bI_0.mp c_5
    refine lv_bipush (v := -2) hx hb dX11_refer_8 (by decide) ?_
    exact ro_iret X (by rw [aReferN, no_ix c_5]) dX11_refer_10

set_option maxHeartbeats 1000000 in
set_option maxRecDepth 100000 in
theorem c_X11_refer {l : Launch} {D : va_G} {cI cJ cW : ClassId} {sz : Nat} {m : Nat} {a : Nat → Nat} {ct dn nw nj n tn tc mm : Nat} {τ : TS} {fu am pb : Int32} {F : Nat → Nat → Int32} {e : Int32} {j : Nat} {wz : Nat → Nat → Int32} {wn : Nat → Nat} {wt : Nat → Nat → Int32} (hnw : nw ≤ 40) (hrw : RW F nw wz wn wt) (htc : tc ≤ 12) (hj : j < nw) (hok : alB (nI tc) e = true) (hk2 : ¬ wz j 2 &&& 16 = 0) : MU l yX11_refer wsX11_refer { frames := 2, cells := 0, slots := 0, locals := 43 } D (ty3 cI cJ cW) [.ref m, .int (nI j), .int e] [(m, .inr (11, [.int (nI ct), .ref (a 1), .ref (a 2), .int (nI dn), .int (nI nw), .int (nI nj), .ref (a 6), .ref (a 7), .ref (a 8), .ref (a 9), .ref (a 10), .ref (a 11), .ref (a 12), .ref (a 13), .ref (a 14), .ref (a 15), .int (nI n), .int (nI tn), .ref (a 18), .ref (a 19), .ref (a 20), .ref (a 21), .ref (a 22), .ref (a 23), .ref (a 24), .ref (a 25), .int (nI τ.1), .int (τ.2.1), .ref (a 28), .int (nI tc), .int (nI mm), .ref (a 31), .ref (a 32), .ref (a 33), .int (fu), .int (am), .int (pb)])), ((a 9), .inl (cI, 40, .inl (F 9))), ((a 12), .inl (cI, 40, .inl (F 12)))] sz (some (.int (wz j 5))) [(m, .inr (11, [.int (nI ct), .ref (a 1), .ref (a 2), .int (nI dn), .int (nI nw), .int (nI nj), .ref (a 6), .ref (a 7), .ref (a 8), .ref (a 9), .ref (a 10), .ref (a 11), .ref (a 12), .ref (a 13), .ref (a 14), .ref (a 15), .int (nI n), .int (nI tn), .ref (a 18), .ref (a 19), .ref (a 20), .ref (a 21), .ref (a 22), .ref (a 23), .ref (a 24), .ref (a 25), .int (nI τ.1), .int (τ.2.1), .ref (a 28), .int (nI tc), .int (nI mm), .ref (a 31), .ref (a 32), .ref (a 33), .int (fu), .int (am), .int (pb)])), ((a 9), .inl (cI, 40, .inl (F 9))), ((a 12), .inl (cI, 40, .inl (upd (F 12) j e)))] := by
  refine mu_of (cc := cX11_refer) (maxL := 4) (ret := (some .int)) (by decide) rfl (Nat.le_of_ble_eq_true rfl) ?_
  intro pr en ss mi below meth cd X hK A hA hP hD hS ls hl
  obtain ⟨hx, hb, hml, hown, hts, hr, hlocks⟩ := id X
  have fl_185 := hts (.fieldLink RX11 185 "WordTablesModel" "things" "I") (by decide +kernel)
  have fl_34 := hts (.fieldLink RX11 34 "WordTablesModel" "refers" "[I") (by decide +kernel)
  have in_X11 : ∀ w ∈ wsX110, w ∈ wsX11_refer := by decide +kernel
  have hl : lv_has ls 4 [(0, .ref m), (1, .int (nI j)), (2, .int e)] := hl
  refine lv_aload_n hx hb dX11_refer_0 rfl (lv_at hl 0 rfl) ?_
  refine lv_iload_n hx hb dX11_refer_1 rfl (lv_at hl 1 rfl) ?_
  refine ro_V (n := 1) X hK (c_X11_isWord hnw) gX11_refer_X11_isWord rfl (by decide +kernel) ⟨rfl, rfl⟩ ⟨Nat.le_of_ble_eq_true rfl, Nat.le_of_ble_eq_true rfl⟩ (hP.sub [0] rfl) (va_recv hK hP (ci := 11) (q0 := 0) rfl rfl) rfl hl.1 rfl (Nat.le_of_ble_eq_true rfl) dX11_refer_2 ⟨Nat.zero_le _, Nat.zero_le _⟩ ?_
  refine lv_if_ne (tgt := 11) hx hb dX11_refer_5 (by decide) (fun c_5 => ?_) (fun c_5 => ?_)
  · replace c_5 := bI_n0.mp c_5
    refine lv_iload_n hx hb dX11_refer_11 rfl (lv_at hl 2 rfl) ?_
    refine lv_if_lt (tgt := 25) hx hb dX11_refer_12 (by decide) (fun c_12 => ?_) (fun c_12 => ?_)
    · exact absurd hok (by rw [show alB (nI tc) e = false by first | exact (alB_lt htc).1 (Or.inl c_12) | exact (alB_lt htc).1 (Or.inr c_22)]; decide)
    · refine lv_iload_n hx hb dX11_refer_15 rfl (lv_at hl 2 rfl) ?_
      refine lv_iconst (v := 1) hx hb dX11_refer_16 (by decide) ?_
      refine lv_aload_n hx hb dX11_refer_17 rfl (lv_at hl 0 rfl) ?_
      refine va_get (D := D) (ci := 11) (C := RX11) (T := TX11) (N := 37) hx hb hts in_X11 hown hK hP 0 rfl rfl 29 (by decide) fl_185 (fun _ h9 => h9) rfl dX11_refer_18 ?_
      refine lv_ishl hx hb dX11_refer_21 ?_
      refine lv_icmp_lt (tgt := 28) hx hb dX11_refer_22 (by decide) (fun c_22 => ?_) (fun c_22 => ?_)
      · have hkd : kdB (F 9 j) 4 = decide (¬ wz j 2 &&& 16 = 0) := by obtain ⟨q, hq, e⟩ := (hrw j hj).2.2.2.2.2.2.2.2; rw [(hrw j hj).2.2.2.2.1, e]; exact kd4 q hq
        refine lv_aload_n hx hb dX11_refer_28 rfl (lv_at hl 0 rfl) ?_
        refine lv_iload_n hx hb dX11_refer_29 rfl (lv_at hl 1 rfl) ?_
        refine lv_iconst (v := 4) hx hb dX11_refer_30 (by decide) ?_
        refine ro_V (n := 2) X hK (c_X11_isKind (F := F) (show j < 40 by omega)) gX11_refer_X11_isKind rfl (by decide +kernel) ⟨rfl, rfl⟩ ⟨Nat.le_of_ble_eq_true rfl, Nat.le_of_ble_eq_true rfl⟩ (hP.sub [0, 1] rfl) (va_recv hK hP (ci := 11) (q0 := 0) rfl rfl) rfl hl.1 rfl (Nat.le_of_ble_eq_true rfl) dX11_refer_31 ⟨Nat.zero_le _, Nat.zero_le _⟩ ?_
        refine lv_if_ne (tgt := 40) hx hb dX11_refer_34 (by decide) (fun c_34 => ?_) (fun c_34 => ?_)
        · replace c_34 := bI_n0.mp c_34
          refine lv_aload_n hx hb dX11_refer_40 rfl (lv_at hl 0 rfl) ?_
          refine va_get (D := D) (ci := 11) (C := RX11) (T := TX11) (N := 37) hx hb hts in_X11 hown hK hP 0 rfl rfl 12 (by decide) fl_34 (fun _ h9 => h9) rfl dX11_refer_41 ?_
          refine lv_iload_n hx hb dX11_refer_44 rfl (lv_at hl 1 rfl) ?_
          refine ald_n hx hb hK hP 2 0 rfl rfl (show j < 40 by omega) (by first | decide | omega) dX11_refer_45 ?_
          refine lv_istore_n (lv' := [(3, _), (0, _), (1, _), (2, _)]) hx hb dX11_refer_46 rfl hl (by decide) rfl (fun ls hl => ?_)
          refine lv_aload_n hx hb dX11_refer_47 rfl (lv_at hl 1 rfl) ?_
          refine va_get (D := D) (ci := 11) (C := RX11) (T := TX11) (N := 37) hx hb hts in_X11 hown hK hP 0 rfl rfl 12 (by decide) fl_34 (fun _ h9 => h9) rfl dX11_refer_48 ?_
          refine lv_iload_n hx hb dX11_refer_51 rfl (lv_at hl 2 rfl) ?_
          refine lv_iload_n hx hb dX11_refer_52 rfl (lv_at hl 3 rfl) ?_
          refine ast_n hx hb hK hP hD hS 2 0 rfl rfl (show j < 40 by omega) (by decide) dX11_refer_53 (fun H locs hP hD hS => ?_)
          have hP : va_P D vwCl [(m, .inr (11, [_, .ref (a 1), .ref (a 2), _, _, _, .ref (a 6), .ref (a 7), .ref (a 8), .ref (a 9), .ref (a 10), .ref (a 11), .ref (a 12), .ref (a 13), .ref (a 14), .ref (a 15), _, _, .ref (a 18), .ref (a 19), .ref (a 20), .ref (a 21), .ref (a 22), .ref (a 23), .ref (a 24), .ref (a 25), _, _, .ref (a 28), _, _, .ref (a 31), .ref (a 32), .ref (a 33), _, _, _])), ((a 9), .inl (cI, 40, .inl _)), ((a 12), .inl (cI, 40, .inl _))] H := hP
          have hD : va_D A [(m, .inr (11, [_, .ref (a 1), .ref (a 2), _, _, _, .ref (a 6), .ref (a 7), .ref (a 8), .ref (a 9), .ref (a 10), .ref (a 11), .ref (a 12), .ref (a 13), .ref (a 14), .ref (a 15), _, _, .ref (a 18), .ref (a 19), .ref (a 20), .ref (a 21), .ref (a 22), .ref (a 23), .ref (a 24), .ref (a 25), _, _, .ref (a 28), _, _, .ref (a 31), .ref (a 32), .ref (a 33), _, _, _])), ((a 9), .inl (cI, 40, .inl _)), ((a 12), .inl (cI, 40, .inl _))] := hD
          refine lv_iload_n hx hb dX11_refer_54 rfl (lv_at hl 0 rfl) ?_
          exact mu_iret X hP hS ((hrw j hj).2.2.2.2.2.2.2.1) (rfl) dX11_refer_55
        · replace c_34 := bI_0.mp c_34
          exact absurd c_34 (by rw [hkd]; simp [hk2])
      · exact absurd hok (by rw [show alB (nI tc) e = false by first | exact (alB_lt htc).1 (Or.inl c_12) | exact (alB_lt htc).1 (Or.inr c_22)]; decide)
  · replace c_5 := bI_0.mp c_5
    exact absurd c_5 (by rw [ixO_nI hj (by omega)]; simp)
