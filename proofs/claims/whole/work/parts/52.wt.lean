/-! a cell among dy is written -/
def dySet (dy : va_W) (a : Nat) (e : va_E) : va_W := dy.map (fun q => if q.1 = a then (a, e) else q)
theorem dySet_eq {A : Nat → Prop} {fx dy : va_W} {a i : Nat} {e0 e : va_E} (hD : va_D A (fx ++ dy)) (hi : dy[i]? = some (a, e0)) : dy.set i (a, e) = dySet dy a e := by
  apply List.ext_getElem?
  intro k
  rw [dySet, List.getElem?_map]
  by_cases hk : k = i
  · subst hk
    rw [List.getElem?_set_self (List.getElem?_eq_some_iff.mp hi).1, hi]
    simp
  · rw [List.getElem?_set_ne (Ne.symm hk)]
    cases hq : dy[k]? with
    | none => rfl
    | some q =>
      have hne : ¬ q.1 = a := fun h => by
        have := hD.1 (fx.length + k) (fx.length + i) q (a, e0) (by rw [List.getElem?_append_right (by omega), show fx.length + k - fx.length = k by omega]; exact hq) (by rw [List.getElem?_append_right (by omega), show fx.length + i - fx.length = i by omega]; exact hi) h
        omega
      simp [hne]
section PUTDY
variable {p : Program} {l : Launch} {e : Env} {R : Room} {s : State} {m : MethodId} {args : Array Value} {below : List Frame} {meth : Method} {c : Code} {H : Heap} {locs : List Loc} {cells slots : Nat} {Q : State → Prop}
variable {cc : ByteArray} {pc : Nat} {ls : Array Slot} {rest : List Value} {D : va_G} {cl : List vw_C} {A : Nat → Prop} {a : Nat} {tys : List (ClassId × FieldType)} {H0 : Heap}
theorem put_dy {dy : va_W} (fx : va_W) (hexec : p.tables.exec = Jvm.exec) (hb : c.code = cc) {own ref C : String} {T : u_T} {N ci index : Nat} {Ts : List Cond} (hts : ∀ w ∈ Ts, w.before args s = true) (hin : ∀ w ∈ u_ws C T N, w ∈ Ts) (ty0 : Nat → FieldType) (hty : ∀ k, k < N → parseFieldDescriptor (T k).2.2.1 = some (ty0 k)) (hnm : ∀ a, a < N → ∀ b, b < N → a ≠ b → (T a).2.1 ≠ (T b).2.1) (hown : s.vm.findClass own = some m.cls) (hK : va_K D cl tys s) (hP : va_P D cl (fx ++ dy) H) (hD : va_D A (fx ++ dy)) (hS0 : va_S A H0 H locs) {fs : List Value} (he : (a, .inr (ci, fs)) ∈ dy) (hc : cl[ci]? = some (C, T, N)) (k : Nat) (hk : k < N) (hlink : (Cond.fieldLink own index ref (T k).2.1 (T k).2.2.1).before args s = true) (hsame : ∀ x, s.fieldFound? (T k).1 (T k).2.1 (T k).2.2.1 = some x → s.fieldFound? ref (T k).2.1 (T k).2.2.1 = some x) (hfin : (T k).2.2.2 = false) {ty : FieldType} {v : Value} (hd : parseFieldDescriptor (T k).2.2.1 = some ty) (hn : narrow ty v = v) (hfit : fits ty v = true) (hl : k < fs.length)
    (hdg : decode cc pc = .ok (.putfield index, 3)) (kk : ∀ (H1 : Heap) (locs1 : List Loc), va_P D cl (fx ++ dySet dy a (.inr (ci, fs.set k v))) H1 → va_D A (fx ++ dySet dy a (.inr (ci, fs.set k v))) → va_S A H0 H1 locs1 → W p l e R s m args below meth c H1 locs1 cells slots Q (F0 m (pc + 3) ls rest)) : W p l e R s m args below meth c H locs cells slots Q (F0 m pc ls (v :: .ref a :: rest)) := by
  obtain ⟨i, hi⟩ := List.getElem?_of_mem he
  have hi' : (fx ++ dy)[fx.length + i]? = some (a, .inr (ci, fs)) := by rw [List.getElem?_append_right (by omega), show fx.length + i - fx.length = i by omega]; exact hi
  have hset : (fx ++ dy).set (fx.length + i) (a, .inr (ci, fs.set k v)) = fx ++ dySet dy a (.inr (ci, fs.set k v)) := by
    rw [List.set_append_right _ _ (by omega), show fx.length + i - fx.length = i by omega, dySet_eq hD hi]
  refine va_put hexec hb hts hin ty0 hty hnm hown hK hP hD hS0 (fx.length + i) hi' hc k hk hlink hsame hfin hd hn hfit hl hdg (fun H1 locs1 h1 h2 h3 => kk H1 locs1 ?_ ?_ h3)
  · rw [← hset]; exact h1
  · rw [← hset]; exact h2
end PUTDY

set_option maxHeartbeats 1000000 in
set_option maxRecDepth 100000 in
theorem c_X10_takeSpareTokens {l : Launch} {D : va_G} {cI cJ cW : ClassId} {sz : Nat} {x t d v th z g u w k h : Nat} {hx_ h1 h2 h3 h4 : Nat} {tn0 tm0 : Int32}  : MU l yX10_takeSpareTokens wsX10_takeSpareTokens { frames := 0, cells := 0, slots := 0, locals := 0 } D (ty3 cI cJ cW) [.ref x] [(x, .inr (10, [.ref t, .ref d, .ref v, .ref th, .ref z, .ref g, .ref u, .ref w, .ref k, .ref h])), (h, .inr (7, [.ref hx_, .ref h1, .ref h2, .ref h3, .ref h4, .int tn0, .int tm0]))] sz (some (.int tn0)) [(x, .inr (10, [.ref t, .ref d, .ref v, .ref th, .ref z, .ref g, .ref u, .ref w, .ref h, .ref k])), (h, .inr (7, [.ref hx_, .ref h1, .ref h2, .ref h3, .ref h4, .int tn0, .int tm0]))] := by
  refine mu_of (cc := cX10_takeSpareTokens) (maxL := 2) (ret := (some .int)) (by decide) rfl (Nat.le_of_ble_eq_true rfl) ?_
  intro pr en ss mi below meth cd X hK A hA hP hD hS ls hl
  obtain ⟨hx, hb, hml, hown, hts, hr, hlocks⟩ := id X
  have fl_254 := hts (.fieldLink RX10 254 "WordTables$Tokens" "count" "I") (by decide +kernel)
  have fl_79 := hts (.fieldLink RX10 79 "WordTables" "tokens" "LWordTables$Tokens;") (by decide +kernel)
  have fl_83 := hts (.fieldLink RX10 83 "WordTables" "spare" "LWordTables$Tokens;") (by decide +kernel)
  have in_X10 : ∀ w ∈ wsX100, w ∈ wsX10_takeSpareTokens := by decide +kernel
  have in_X7 : ∀ w ∈ wsX70, w ∈ wsX10_takeSpareTokens := by decide +kernel
  have hl : lv_has ls 2 [(0, .ref x)] := hl
  refine lv_aload_n hx hb dX10_takeSpareTokens_0 rfl (lv_at hl 0 rfl) ?_
  refine va_get (D := D) (ci := 10) (C := RX10) (T := TX10) (N := 10) hx hb hts in_X10 hown hK hP 0 rfl rfl 8 (by decide) fl_79 (fun _ h9 => h9) rfl dX10_takeSpareTokens_1 ?_
  refine lv_astore_n (lv' := [(1, _), (0, _)]) hx hb dX10_takeSpareTokens_4 rfl hl (by decide) rfl (fun ls hl => ?_)
  refine lv_aload_n hx hb dX10_takeSpareTokens_5 rfl (lv_at hl 1 rfl) ?_
  refine lv_aload_n hx hb dX10_takeSpareTokens_6 rfl (lv_at hl 1 rfl) ?_
  refine va_get (D := D) (ci := 10) (C := RX10) (T := TX10) (N := 10) hx hb hts in_X10 hown hK hP 0 rfl rfl 9 (by decide) fl_83 (fun _ h9 => h9) rfl dX10_takeSpareTokens_7 ?_
  refine va_put (D := D) (ci := 10) (ty := .object "WordTables$Tokens") (C := RX10) (T := TX10) (N := 10) hx hb hts in_X10 tyX10 tyX10_ok nmX10 hown hK hP hD hS 0 rfl rfl 8 (by decide) fl_79 (fun _ h9 => h9) rfl (by decide +kernel) rfl rfl (Nat.le_of_ble_eq_true rfl) dX10_takeSpareTokens_10 (fun H locs hP hD hS => ?_)
  have hP : va_P D vwCl [(x, .inr (10, [.ref t, .ref d, .ref v, .ref th, .ref z, .ref g, .ref u, .ref w, .ref h, .ref h])), (h, .inr (7, [.ref hx_, .ref h1, .ref h2, .ref h3, .ref h4, _, _]))] H := hP
  have hD : va_D A [(x, .inr (10, [.ref t, .ref d, .ref v, .ref th, .ref z, .ref g, .ref u, .ref w, .ref h, .ref h])), (h, .inr (7, [.ref hx_, .ref h1, .ref h2, .ref h3, .ref h4, _, _]))] := hD
  refine lv_aload_n hx hb dX10_takeSpareTokens_13 rfl (lv_at hl 1 rfl) ?_
  refine lv_aload_n hx hb dX10_takeSpareTokens_14 rfl (lv_at hl 0 rfl) ?_
  refine va_put (D := D) (ci := 10) (ty := .object "WordTables$Tokens") (C := RX10) (T := TX10) (N := 10) hx hb hts in_X10 tyX10 tyX10_ok nmX10 hown hK hP hD hS 0 rfl rfl 9 (by decide) fl_83 (fun _ h9 => h9) rfl (by decide +kernel) rfl rfl (Nat.le_of_ble_eq_true rfl) dX10_takeSpareTokens_15 (fun H locs hP hD hS => ?_)
  have hP : va_P D vwCl [(x, .inr (10, [.ref t, .ref d, .ref v, .ref th, .ref z, .ref g, .ref u, .ref w, .ref h, .ref k])), (h, .inr (7, [.ref hx_, .ref h1, .ref h2, .ref h3, .ref h4, _, _]))] H := hP
  have hD : va_D A [(x, .inr (10, [.ref t, .ref d, .ref v, .ref th, .ref z, .ref g, .ref u, .ref w, .ref h, .ref k])), (h, .inr (7, [.ref hx_, .ref h1, .ref h2, .ref h3, .ref h4, _, _]))] := hD
  refine lv_aload_n hx hb dX10_takeSpareTokens_18 rfl (lv_at hl 1 rfl) ?_
  refine va_get (D := D) (ci := 10) (C := RX10) (T := TX10) (N := 10) hx hb hts in_X10 hown hK hP 0 rfl rfl 8 (by decide) fl_79 (fun _ h9 => h9) rfl dX10_takeSpareTokens_19 ?_
  refine va_get (D := D) (ci := 7) (C := RX7) (T := TX7) (N := 7) hx hb hts in_X7 hown hK hP 1 rfl rfl 5 (by decide) fl_254 (fun _ h9 => h9) rfl dX10_takeSpareTokens_22 ?_
  exact mu_iret X hP hS (rfl) (rfl) dX10_takeSpareTokens_25

set_option maxHeartbeats 1000000 in
set_option maxRecDepth 100000 in
theorem c_X10_read_f {l : Launch} {D : va_G} {cI cJ cW : ClassId} {sz : Nat} {x t d v th z g u w k h : Nat} {hx_ h1 h2 h3 h4 hxb vw vj nw nj fa ct tb n : Nat} {wf jf : Nat → Option Nat} {fo : Nat → Int32} {L xf : Nat → Int32} {iv : Value} {lg0 tn0 tm0 xn y : Int32} {T : Nat → Nat → Int32} {dy : va_W} {wa : Nat → Nat → Nat} {wz : Nat → Nat → Int32} {wn : Nat → Nat} {wt : Nat → Nat → Int32} {ja : Nat → Nat → Nat} {jz : Nat → Nat → Int32} {jn : Nat → Nat} {jt : Nat → Nat → Int32} (hct : ct < 2 ^ 31) (hn : n ≤ 80) (hnw : nw ≤ 40) (hwf : ∀ i, i < nw → wf i = some (wa i 0)) (hdw : Dw cI wa wz wn wt nw dy) (hnj : nj ≤ 8) (hjf : ∀ i, i < nj → jf i = some (ja i 0)) (hdj : Dj cI ja jz jn jt nj dy) (hlg : isLg y = false) : MU l yX10_read wsX10_read { frames := 7, cells := 0, slots := 0, locals := 156 } D (ty3 cI cJ cW) [.ref x, .int y] ((x, .inr (10, [.ref t, .ref d, .ref v, .ref th, .ref z, .ref g, .ref u, .ref w, .ref k, .ref h])) :: (z, .inr (1, [.ref t, .ref v, .ref th, iv, .int lg0])) :: (h, .inr (7, [.ref hx_, .ref h1, .ref h2, .ref h3, .ref h4, .int tn0, .int tm0])) :: (h1, .inl (cI, 24, .inl (T 1))) :: (h2, .inl (cI, 24, .inl (T 2))) :: (h3, .inl (cI, 24, .inl (T 3))) :: (h4, .inl (cI, 24, .inl (T 4))) :: (hx_, .inr (4, [.ref hxb, .int xn])) :: (hxb, .inl (cI, 80, .inl xf)) :: (v, .inr (8, [.ref t, .ref vw, .ref vj, .int (nI nw), .int (nI nj)])) :: (vw, .inl (cW, 40, .inr (.inr (.inr (.inr wf))))) :: (vj, .inl (cJ, 8, .inr (.inr (.inr (.inr jf))))) :: (t, .inr (3, [.int (nI ct), .ref fa])) :: (fa, .inl (cI, 32, .inl fo)) :: (th, .inr (4, [.ref tb, .int (nI n)])) :: (tb, .inl (cI, 80, .inl L)) :: dy) sz (some (.int (-3))) ((x, .inr (10, [.ref t, .ref d, .ref v, .ref th, .ref z, .ref g, .ref u, .ref w, .ref k, .ref h])) :: (z, .inr (1, [.ref t, .ref v, .ref th, iv, .int lg0])) :: (h, .inr (7, [.ref hx_, .ref h1, .ref h2, .ref h3, .ref h4, .int tn0, .int tm0])) :: (h1, .inl (cI, 24, .inl (T 1))) :: (h2, .inl (cI, 24, .inl (T 2))) :: (h3, .inl (cI, 24, .inl (T 3))) :: (h4, .inl (cI, 24, .inl (T 4))) :: (hx_, .inr (4, [.ref hxb, .int xn])) :: (hxb, .inl (cI, 80, .inl xf)) :: (v, .inr (8, [.ref t, .ref vw, .ref vj, .int (nI nw), .int (nI nj)])) :: (vw, .inl (cW, 40, .inr (.inr (.inr (.inr wf))))) :: (vj, .inl (cJ, 8, .inr (.inr (.inr (.inr jf))))) :: (t, .inr (3, [.int (nI ct), .ref fa])) :: (fa, .inl (cI, 32, .inl fo)) :: (th, .inr (4, [.ref tb, .int 0])) :: (tb, .inl (cI, 80, .inl L)) :: dy) := by
  refine mu_of (cc := cX10_read) (maxL := 3) (ret := (some .int)) (by decide) rfl (Nat.le_of_ble_eq_true rfl) ?_
  intro pr en ss mi below meth cd X hK A hA hP hD hS ls hl
  obtain ⟨hx, hb, hml, hown, hts, hr, hlocks⟩ := id X
  have fl_43 := hts (.fieldLink RX10 43 "WordTables" "line" "LWordTables$Row;") (by decide +kernel)
  have in_X10 : ∀ w ∈ wsX100, w ∈ wsX10_read := by decide +kernel
  have hl : lv_has ls 3 [(0, .ref x), (1, .int y)] := hl
  refine lv_bipush (v := -3) hx hb dX10_read_0 (by decide) ?_
  refine lv_istore_n (lv' := [(2, _), (0, _), (1, _)]) hx hb dX10_read_2 rfl hl (by decide) rfl (fun ls hl => ?_)
  refine lv_iload_n hx hb dX10_read_3 rfl (lv_at hl 2 rfl) ?_
  refine ro_S (n := 1) X hK (c_X10_isLanguage) gX10_read_X10_isLanguage rfl (by decide +kernel) ⟨rfl, rfl⟩ ⟨Nat.le_of_ble_eq_true rfl, Nat.le_of_ble_eq_true rfl⟩ (hP.sub [] rfl) rfl hl.1 rfl (Nat.le_of_ble_eq_true rfl) dX10_read_4 ⟨Nat.zero_le _, Nat.zero_le _⟩ ?_
  refine lv_if_eq (tgt := 35) hx hb dX10_read_7 (by decide) (fun c_7 => ?_) (fun c_7 => ?_)
  · replace c_7 := bI_0.mp c_7
    refine lv_aload_n hx hb dX10_read_35 rfl (lv_at hl 1 rfl) ?_
    refine va_get (D := D) (ci := 10) (C := RX10) (T := TX10) (N := 10) hx hb hts in_X10 hown hK hP 0 rfl rfl 3 (by decide) fl_43 (fun _ h9 => h9) rfl dX10_read_36 ?_
    refine mu_V (n := 0) X hK (c_X4_clear) gX10_read_X4_clear rfl (by decide +kernel) ⟨rfl, rfl⟩ ⟨Nat.le_of_ble_eq_true rfl, Nat.le_of_ble_eq_true rfl⟩ [14, 15] rfl rfl rfl rfl hA hP hD hS (va_recv hK hP (ci := 4) (q0 := 14) rfl rfl) rfl hl.1 rfl (Nat.le_of_ble_eq_true rfl) dX10_read_39 ⟨Nat.zero_le _, Nat.zero_le _⟩ (fun H locs hP hD hS => ?_)
    have hP : va_P D vwCl ((x, .inr (10, [.ref t, .ref d, .ref v, .ref th, .ref z, .ref g, .ref u, .ref w, .ref k, .ref h])) :: (z, .inr (1, [.ref t, .ref v, .ref th, _, _])) :: (h, .inr (7, [.ref hx_, .ref h1, .ref h2, .ref h3, .ref h4, _, _])) :: (h1, .inl (cI, 24, .inl _)) :: (h2, .inl (cI, 24, .inl _)) :: (h3, .inl (cI, 24, .inl _)) :: (h4, .inl (cI, 24, .inl _)) :: (hx_, .inr (4, [.ref hxb, _])) :: (hxb, .inl (cI, 80, .inl _)) :: (v, .inr (8, [.ref t, .ref vw, .ref vj, _, _])) :: (vw, .inl (cW, 40, .inr (.inr (.inr (.inr _))))) :: (vj, .inl (cJ, 8, .inr (.inr (.inr (.inr _))))) :: (t, .inr (3, [_, .ref fa])) :: (fa, .inl (cI, 32, .inl _)) :: (th, .inr (4, [.ref tb, _])) :: (tb, .inl (cI, 80, .inl _)) :: dy) H := hP
    have hD : va_D A ((x, .inr (10, [.ref t, .ref d, .ref v, .ref th, .ref z, .ref g, .ref u, .ref w, .ref k, .ref h])) :: (z, .inr (1, [.ref t, .ref v, .ref th, _, _])) :: (h, .inr (7, [.ref hx_, .ref h1, .ref h2, .ref h3, .ref h4, _, _])) :: (h1, .inl (cI, 24, .inl _)) :: (h2, .inl (cI, 24, .inl _)) :: (h3, .inl (cI, 24, .inl _)) :: (h4, .inl (cI, 24, .inl _)) :: (hx_, .inr (4, [.ref hxb, _])) :: (hxb, .inl (cI, 80, .inl _)) :: (v, .inr (8, [.ref t, .ref vw, .ref vj, _, _])) :: (vw, .inl (cW, 40, .inr (.inr (.inr (.inr _))))) :: (vj, .inl (cJ, 8, .inr (.inr (.inr (.inr _))))) :: (t, .inr (3, [_, .ref fa])) :: (fa, .inl (cI, 32, .inl _)) :: (th, .inr (4, [.ref tb, _])) :: (tb, .inl (cI, 80, .inl _)) :: dy) := hD
    refine lv_iload_n hx hb dX10_read_42 rfl (lv_at hl 0 rfl) ?_
    exact mu_iret X hP hS (rfl) (rfl) dX10_read_43
  · replace c_7 := bI_n0.mp c_7
    exact absurd c_7 (by rw [hlg]; decide)

set_option maxHeartbeats 1000000 in
set_option maxRecDepth 100000 in
theorem c_X10_read_t {l : Launch} {D : va_G} {cI cJ cW : ClassId} {sz : Nat} {x t d v th z g u w k h : Nat} {hx_ h1 h2 h3 h4 hxb vw vj nw nj fa ct tb n : Nat} {wf jf : Nat → Option Nat} {fo : Nat → Int32} {L xf : Nat → Int32} {iv : Value} {lg0 tn0 tm0 xn y : Int32} {T : Nat → Nat → Int32} {dy : va_W} {wa : Nat → Nat → Nat} {wz : Nat → Nat → Int32} {wn : Nat → Nat} {wt : Nat → Nat → Int32} {ja : Nat → Nat → Nat} {jz : Nat → Nat → Int32} {jn : Nat → Nat} {jt : Nat → Nat → Int32} (hct : ct < 2 ^ 31) (hn : n ≤ 80) (hnw : nw ≤ 40) (hwf : ∀ i, i < nw → wf i = some (wa i 0)) (hdw : Dw cI wa wz wn wt nw dy) (hnj : nj ≤ 8) (hjf : ∀ i, i < nj → jf i = some (ja i 0)) (hdj : Dj cI ja jz jn jt nj dy) (hlg : isLg y = true) (hok : (cutL (foC fo) (fwC ct fo wz wn wt nw L) (fjC ct fo jn jt nj L) (fun j => jz j 1) (fun j => jz j 2) y n L 80 0 (0, 0, T)).2.1 = 0) : MU l yX10_read wsX10_read { frames := 7, cells := 0, slots := 0, locals := 156 } D (ty3 cI cJ cW) [.ref x, .int y] ((x, .inr (10, [.ref t, .ref d, .ref v, .ref th, .ref z, .ref g, .ref u, .ref w, .ref k, .ref h])) :: (z, .inr (1, [.ref t, .ref v, .ref th, iv, .int lg0])) :: (h, .inr (7, [.ref hx_, .ref h1, .ref h2, .ref h3, .ref h4, .int tn0, .int tm0])) :: (h1, .inl (cI, 24, .inl (T 1))) :: (h2, .inl (cI, 24, .inl (T 2))) :: (h3, .inl (cI, 24, .inl (T 3))) :: (h4, .inl (cI, 24, .inl (T 4))) :: (hx_, .inr (4, [.ref hxb, .int xn])) :: (hxb, .inl (cI, 80, .inl xf)) :: (v, .inr (8, [.ref t, .ref vw, .ref vj, .int (nI nw), .int (nI nj)])) :: (vw, .inl (cW, 40, .inr (.inr (.inr (.inr wf))))) :: (vj, .inl (cJ, 8, .inr (.inr (.inr (.inr jf))))) :: (t, .inr (3, [.int (nI ct), .ref fa])) :: (fa, .inl (cI, 32, .inl fo)) :: (th, .inr (4, [.ref tb, .int (nI n)])) :: (tb, .inl (cI, 80, .inl L)) :: dy) sz (some (.int (nI (cutL (foC fo) (fwC ct fo wz wn wt nw L) (fjC ct fo jn jt nj L) (fun j => jz j 1) (fun j => jz j 2) y n L 80 0 (0, 0, T)).1))) ((x, .inr (10, [.ref t, .ref d, .ref v, .ref th, .ref z, .ref g, .ref u, .ref w, .ref h, .ref k])) :: (z, .inr (1, [.ref t, .ref v, .ref th, .ref h, .int y])) :: (h, .inr (7, [.ref hx_, .ref h1, .ref h2, .ref h3, .ref h4, .int (nI (cutL (foC fo) (fwC ct fo wz wn wt nw L) (fjC ct fo jn jt nj L) (fun j => jz j 1) (fun j => jz j 2) y n L 80 0 (0, 0, T)).1), .int ((cutL (foC fo) (fwC ct fo wz wn wt nw L) (fjC ct fo jn jt nj L) (fun j => jz j 1) (fun j => jz j 2) y n L 80 0 (0, 0, T)).2.1)])) :: (h1, .inl (cI, 24, .inl ((cutL (foC fo) (fwC ct fo wz wn wt nw L) (fjC ct fo jn jt nj L) (fun j => jz j 1) (fun j => jz j 2) y n L 80 0 (0, 0, T)).2.2 1))) :: (h2, .inl (cI, 24, .inl ((cutL (foC fo) (fwC ct fo wz wn wt nw L) (fjC ct fo jn jt nj L) (fun j => jz j 1) (fun j => jz j 2) y n L 80 0 (0, 0, T)).2.2 2))) :: (h3, .inl (cI, 24, .inl ((cutL (foC fo) (fwC ct fo wz wn wt nw L) (fjC ct fo jn jt nj L) (fun j => jz j 1) (fun j => jz j 2) y n L 80 0 (0, 0, T)).2.2 3))) :: (h4, .inl (cI, 24, .inl ((cutL (foC fo) (fwC ct fo wz wn wt nw L) (fjC ct fo jn jt nj L) (fun j => jz j 1) (fun j => jz j 2) y n L 80 0 (0, 0, T)).2.2 4))) :: (hx_, .inr (4, [.ref hxb, .int (nI n)])) :: (hxb, .inl (cI, 80, .inl (cpF xf L n))) :: (v, .inr (8, [.ref t, .ref vw, .ref vj, .int (nI nw), .int (nI nj)])) :: (vw, .inl (cW, 40, .inr (.inr (.inr (.inr wf))))) :: (vj, .inl (cJ, 8, .inr (.inr (.inr (.inr jf))))) :: (t, .inr (3, [.int (nI ct), .ref fa])) :: (fa, .inl (cI, 32, .inl fo)) :: (th, .inr (4, [.ref tb, .int 0])) :: (tb, .inl (cI, 80, .inl L)) :: dy) := by
  refine mu_of (cc := cX10_read) (maxL := 3) (ret := (some .int)) (by decide) rfl (Nat.le_of_ble_eq_true rfl) ?_
  intro pr en ss mi below meth cd X hK A hA hP hD hS ls hl
  obtain ⟨hx, hb, hml, hown, hts, hr, hlocks⟩ := id X
  have fl_43 := hts (.fieldLink RX10 43 "WordTables" "line" "LWordTables$Row;") (by decide +kernel)
  have fl_51 := hts (.fieldLink RX10 51 "WordTables" "cutter" "LWordTables$Cutter;") (by decide +kernel)
  have fl_83 := hts (.fieldLink RX10 83 "WordTables" "spare" "LWordTables$Tokens;") (by decide +kernel)
  have in_X10 : ∀ w ∈ wsX100, w ∈ wsX10_read := by decide +kernel
  have hl : lv_has ls 3 [(0, .ref x), (1, .int y)] := hl
  refine lv_bipush (v := -3) hx hb dX10_read_0 (by decide) ?_
  refine lv_istore_n (lv' := [(2, _), (0, _), (1, _)]) hx hb dX10_read_2 rfl hl (by decide) rfl (fun ls hl => ?_)
  refine lv_iload_n hx hb dX10_read_3 rfl (lv_at hl 2 rfl) ?_
  refine ro_S (n := 1) X hK (c_X10_isLanguage) gX10_read_X10_isLanguage rfl (by decide +kernel) ⟨rfl, rfl⟩ ⟨Nat.le_of_ble_eq_true rfl, Nat.le_of_ble_eq_true rfl⟩ (hP.sub [] rfl) rfl hl.1 rfl (Nat.le_of_ble_eq_true rfl) dX10_read_4 ⟨Nat.zero_le _, Nat.zero_le _⟩ ?_
  refine lv_if_eq (tgt := 35) hx hb dX10_read_7 (by decide) (fun c_7 => ?_) (fun c_7 => ?_)
  · replace c_7 := bI_0.mp c_7
    exact absurd c_7 (by rw [hlg]; decide)
  · replace c_7 := bI_n0.mp c_7
    refine lv_aload_n hx hb dX10_read_10 rfl (lv_at hl 1 rfl) ?_
    refine va_get (D := D) (ci := 10) (C := RX10) (T := TX10) (N := 10) hx hb hts in_X10 hown hK hP 0 rfl rfl 4 (by decide) fl_51 (fun _ h9 => h9) rfl dX10_read_11 ?_
    refine lv_iload_n hx hb dX10_read_14 rfl (lv_at hl 2 rfl) ?_
    refine lv_aload_n hx hb dX10_read_15 rfl (lv_at hl 1 rfl) ?_
    refine va_get (D := D) (ci := 10) (C := RX10) (T := TX10) (N := 10) hx hb hts in_X10 hown hK hP 0 rfl rfl 9 (by decide) fl_83 (fun _ h9 => h9) rfl dX10_read_16 ?_
    refine mu_VT (n := 2) (dy := dy) [_, _, _, _, _, _, _, _, _, _, _, _, _, _, _, _] [_, _, _, _, _, _, _, _, _, _, _, _, _, _, _] [_, _, _, _, _, _, _, _, _, _, _, _, _, _, _] X hK (c_X1_cutLine (fo := fo) (L := L) (xf := xf) (xn := xn) (lg := y) (T := T) (tn0 := tn0) (tm0 := tm0) (iv := iv) (lg0 := lg0) hct hn hnw hwf hdw hnj hjf hdj) gX10_read_X1_cutLine rfl (by decide +kernel) ⟨rfl, rfl⟩ ⟨Nat.le_of_ble_eq_true rfl, Nat.le_of_ble_eq_true rfl⟩ [1, 2, 3, 4, 5, 6, 7, 8, 9, 10, 11, 12, 13, 14, 15] rfl rfl rfl rfl hA hP hD hS (va_recv hK hP (ci := 1) (q0 := 1) rfl rfl) rfl hl.1 rfl (Nat.le_of_ble_eq_true rfl) dX10_read_19 ⟨Nat.zero_le _, Nat.zero_le _⟩ (fun H locs hP hD hS => ?_)
    have hP : va_P D vwCl ((x, .inr (10, [.ref t, .ref d, .ref v, .ref th, .ref z, .ref g, .ref u, .ref w, .ref k, .ref h])) :: (z, .inr (1, [.ref t, .ref v, .ref th, .ref h, _])) :: (h, .inr (7, [.ref hx_, .ref h1, .ref h2, .ref h3, .ref h4, _, _])) :: (h1, .inl (cI, 24, .inl _)) :: (h2, .inl (cI, 24, .inl _)) :: (h3, .inl (cI, 24, .inl _)) :: (h4, .inl (cI, 24, .inl _)) :: (hx_, .inr (4, [.ref hxb, _])) :: (hxb, .inl (cI, 80, .inl _)) :: (v, .inr (8, [.ref t, .ref vw, .ref vj, _, _])) :: (vw, .inl (cW, 40, .inr (.inr (.inr (.inr _))))) :: (vj, .inl (cJ, 8, .inr (.inr (.inr (.inr _))))) :: (t, .inr (3, [_, .ref fa])) :: (fa, .inl (cI, 32, .inl _)) :: (th, .inr (4, [.ref tb, _])) :: (tb, .inl (cI, 80, .inl _)) :: dy) H := hP
    have hD : va_D A ((x, .inr (10, [.ref t, .ref d, .ref v, .ref th, .ref z, .ref g, .ref u, .ref w, .ref k, .ref h])) :: (z, .inr (1, [.ref t, .ref v, .ref th, .ref h, _])) :: (h, .inr (7, [.ref hx_, .ref h1, .ref h2, .ref h3, .ref h4, _, _])) :: (h1, .inl (cI, 24, .inl _)) :: (h2, .inl (cI, 24, .inl _)) :: (h3, .inl (cI, 24, .inl _)) :: (h4, .inl (cI, 24, .inl _)) :: (hx_, .inr (4, [.ref hxb, _])) :: (hxb, .inl (cI, 80, .inl _)) :: (v, .inr (8, [.ref t, .ref vw, .ref vj, _, _])) :: (vw, .inl (cW, 40, .inr (.inr (.inr (.inr _))))) :: (vj, .inl (cJ, 8, .inr (.inr (.inr (.inr _))))) :: (t, .inr (3, [_, .ref fa])) :: (fa, .inl (cI, 32, .inl _)) :: (th, .inr (4, [.ref tb, _])) :: (tb, .inl (cI, 80, .inl _)) :: dy) := hD
    refine lv_if_eq (tgt := 32) hx hb dX10_read_22 (by decide) (fun c_22 => ?_) (fun c_22 => ?_)
    · replace c_22 := bI_0.mp c_22
      exact absurd hok (of_decide_eq_false c_22)
    · replace c_22 := bI_n0.mp c_22
      refine lv_aload_n hx hb dX10_read_25 rfl (lv_at hl 1 rfl) ?_
      refine mu_V (n := 0) X hK (c_X10_takeSpareTokens) gX10_read_X10_takeSpareTokens rfl (by decide +kernel) ⟨rfl, rfl⟩ ⟨Nat.le_of_ble_eq_true rfl, Nat.le_of_ble_eq_true rfl⟩ [0, 2] rfl rfl rfl rfl hA hP hD hS (va_recv hK hP (ci := 10) (q0 := 0) rfl rfl) rfl hl.1 rfl (Nat.le_of_ble_eq_true rfl) dX10_read_26 ⟨Nat.zero_le _, Nat.zero_le _⟩ (fun H locs hP hD hS => ?_)
      have hP : va_P D vwCl ((x, .inr (10, [.ref t, .ref d, .ref v, .ref th, .ref z, .ref g, .ref u, .ref w, .ref h, .ref k])) :: (z, .inr (1, [.ref t, .ref v, .ref th, .ref h, _])) :: (h, .inr (7, [.ref hx_, .ref h1, .ref h2, .ref h3, .ref h4, _, _])) :: (h1, .inl (cI, 24, .inl _)) :: (h2, .inl (cI, 24, .inl _)) :: (h3, .inl (cI, 24, .inl _)) :: (h4, .inl (cI, 24, .inl _)) :: (hx_, .inr (4, [.ref hxb, _])) :: (hxb, .inl (cI, 80, .inl _)) :: (v, .inr (8, [.ref t, .ref vw, .ref vj, _, _])) :: (vw, .inl (cW, 40, .inr (.inr (.inr (.inr _))))) :: (vj, .inl (cJ, 8, .inr (.inr (.inr (.inr _))))) :: (t, .inr (3, [_, .ref fa])) :: (fa, .inl (cI, 32, .inl _)) :: (th, .inr (4, [.ref tb, _])) :: (tb, .inl (cI, 80, .inl _)) :: dy) H := hP
      have hD : va_D A ((x, .inr (10, [.ref t, .ref d, .ref v, .ref th, .ref z, .ref g, .ref u, .ref w, .ref h, .ref k])) :: (z, .inr (1, [.ref t, .ref v, .ref th, .ref h, _])) :: (h, .inr (7, [.ref hx_, .ref h1, .ref h2, .ref h3, .ref h4, _, _])) :: (h1, .inl (cI, 24, .inl _)) :: (h2, .inl (cI, 24, .inl _)) :: (h3, .inl (cI, 24, .inl _)) :: (h4, .inl (cI, 24, .inl _)) :: (hx_, .inr (4, [.ref hxb, _])) :: (hxb, .inl (cI, 80, .inl _)) :: (v, .inr (8, [.ref t, .ref vw, .ref vj, _, _])) :: (vw, .inl (cW, 40, .inr (.inr (.inr (.inr _))))) :: (vj, .inl (cJ, 8, .inr (.inr (.inr (.inr _))))) :: (t, .inr (3, [_, .ref fa])) :: (fa, .inl (cI, 32, .inl _)) :: (th, .inr (4, [.ref tb, _])) :: (tb, .inl (cI, 80, .inl _)) :: dy) := hD
      refine lv_goto (tgt := 34) hx hb dX10_read_29 (by decide) ?_
      refine lv_istore_n (lv' := [(2, _), (0, _), (1, _)]) hx hb dX10_read_34 rfl hl (by decide) rfl (fun ls hl => ?_)
      refine lv_aload_n hx hb dX10_read_35 rfl (lv_at hl 1 rfl) ?_
      refine va_get (D := D) (ci := 10) (C := RX10) (T := TX10) (N := 10) hx hb hts in_X10 hown hK hP 0 rfl rfl 3 (by decide) fl_43 (fun _ h9 => h9) rfl dX10_read_36 ?_
      refine mu_V (n := 0) X hK (c_X4_clear) gX10_read_X4_clear rfl (by decide +kernel) ⟨rfl, rfl⟩ ⟨Nat.le_of_ble_eq_true rfl, Nat.le_of_ble_eq_true rfl⟩ [14, 15] rfl rfl rfl rfl hA hP hD hS (va_recv hK hP (ci := 4) (q0 := 14) rfl rfl) rfl hl.1 rfl (Nat.le_of_ble_eq_true rfl) dX10_read_39 ⟨Nat.zero_le _, Nat.zero_le _⟩ (fun H locs hP hD hS => ?_)
      have hP : va_P D vwCl ((x, .inr (10, [.ref t, .ref d, .ref v, .ref th, .ref z, .ref g, .ref u, .ref w, .ref h, .ref k])) :: (z, .inr (1, [.ref t, .ref v, .ref th, .ref h, _])) :: (h, .inr (7, [.ref hx_, .ref h1, .ref h2, .ref h3, .ref h4, _, _])) :: (h1, .inl (cI, 24, .inl _)) :: (h2, .inl (cI, 24, .inl _)) :: (h3, .inl (cI, 24, .inl _)) :: (h4, .inl (cI, 24, .inl _)) :: (hx_, .inr (4, [.ref hxb, _])) :: (hxb, .inl (cI, 80, .inl _)) :: (v, .inr (8, [.ref t, .ref vw, .ref vj, _, _])) :: (vw, .inl (cW, 40, .inr (.inr (.inr (.inr _))))) :: (vj, .inl (cJ, 8, .inr (.inr (.inr (.inr _))))) :: (t, .inr (3, [_, .ref fa])) :: (fa, .inl (cI, 32, .inl _)) :: (th, .inr (4, [.ref tb, _])) :: (tb, .inl (cI, 80, .inl _)) :: dy) H := hP
      have hD : va_D A ((x, .inr (10, [.ref t, .ref d, .ref v, .ref th, .ref z, .ref g, .ref u, .ref w, .ref h, .ref k])) :: (z, .inr (1, [.ref t, .ref v, .ref th, .ref h, _])) :: (h, .inr (7, [.ref hx_, .ref h1, .ref h2, .ref h3, .ref h4, _, _])) :: (h1, .inl (cI, 24, .inl _)) :: (h2, .inl (cI, 24, .inl _)) :: (h3, .inl (cI, 24, .inl _)) :: (h4, .inl (cI, 24, .inl _)) :: (hx_, .inr (4, [.ref hxb, _])) :: (hxb, .inl (cI, 80, .inl _)) :: (v, .inr (8, [.ref t, .ref vw, .ref vj, _, _])) :: (vw, .inl (cW, 40, .inr (.inr (.inr (.inr _))))) :: (vj, .inl (cJ, 8, .inr (.inr (.inr (.inr _))))) :: (t, .inr (3, [_, .ref fa])) :: (fa, .inl (cI, 32, .inl _)) :: (th, .inr (4, [.ref tb, _])) :: (tb, .inl (cI, 80, .inl _)) :: dy) := hD
      refine lv_iload_n hx hb dX10_read_42 rfl (lv_at hl 0 rfl) ?_
      exact mu_iret X hP hS (rfl) (rfl) dX10_read_43

set_option maxHeartbeats 1000000 in
set_option maxRecDepth 100000 in
theorem c_X10_read_n {l : Launch} {D : va_G} {cI cJ cW : ClassId} {sz : Nat} {x t d v th z g u w k h : Nat} {hx_ h1 h2 h3 h4 hxb vw vj nw nj fa ct tb n : Nat} {wf jf : Nat → Option Nat} {fo : Nat → Int32} {L xf : Nat → Int32} {iv : Value} {lg0 tn0 tm0 xn y : Int32} {T : Nat → Nat → Int32} {dy : va_W} {wa : Nat → Nat → Nat} {wz : Nat → Nat → Int32} {wn : Nat → Nat} {wt : Nat → Nat → Int32} {ja : Nat → Nat → Nat} {jz : Nat → Nat → Int32} {jn : Nat → Nat} {jt : Nat → Nat → Int32} (hct : ct < 2 ^ 31) (hn : n ≤ 80) (hnw : nw ≤ 40) (hwf : ∀ i, i < nw → wf i = some (wa i 0)) (hdw : Dw cI wa wz wn wt nw dy) (hnj : nj ≤ 8) (hjf : ∀ i, i < nj → jf i = some (ja i 0)) (hdj : Dj cI ja jz jn jt nj dy) (hlg : isLg y = true) (hok : ¬ (cutL (foC fo) (fwC ct fo wz wn wt nw L) (fjC ct fo jn jt nj L) (fun j => jz j 1) (fun j => jz j 2) y n L 80 0 (0, 0, T)).2.1 = 0) : MU l yX10_read wsX10_read { frames := 7, cells := 0, slots := 0, locals := 156 } D (ty3 cI cJ cW) [.ref x, .int y] ((x, .inr (10, [.ref t, .ref d, .ref v, .ref th, .ref z, .ref g, .ref u, .ref w, .ref k, .ref h])) :: (z, .inr (1, [.ref t, .ref v, .ref th, iv, .int lg0])) :: (h, .inr (7, [.ref hx_, .ref h1, .ref h2, .ref h3, .ref h4, .int tn0, .int tm0])) :: (h1, .inl (cI, 24, .inl (T 1))) :: (h2, .inl (cI, 24, .inl (T 2))) :: (h3, .inl (cI, 24, .inl (T 3))) :: (h4, .inl (cI, 24, .inl (T 4))) :: (hx_, .inr (4, [.ref hxb, .int xn])) :: (hxb, .inl (cI, 80, .inl xf)) :: (v, .inr (8, [.ref t, .ref vw, .ref vj, .int (nI nw), .int (nI nj)])) :: (vw, .inl (cW, 40, .inr (.inr (.inr (.inr wf))))) :: (vj, .inl (cJ, 8, .inr (.inr (.inr (.inr jf))))) :: (t, .inr (3, [.int (nI ct), .ref fa])) :: (fa, .inl (cI, 32, .inl fo)) :: (th, .inr (4, [.ref tb, .int (nI n)])) :: (tb, .inl (cI, 80, .inl L)) :: dy) sz (some (.int (-5))) ((x, .inr (10, [.ref t, .ref d, .ref v, .ref th, .ref z, .ref g, .ref u, .ref w, .ref k, .ref h])) :: (z, .inr (1, [.ref t, .ref v, .ref th, .ref h, .int y])) :: (h, .inr (7, [.ref hx_, .ref h1, .ref h2, .ref h3, .ref h4, .int (nI (cutL (foC fo) (fwC ct fo wz wn wt nw L) (fjC ct fo jn jt nj L) (fun j => jz j 1) (fun j => jz j 2) y n L 80 0 (0, 0, T)).1), .int ((cutL (foC fo) (fwC ct fo wz wn wt nw L) (fjC ct fo jn jt nj L) (fun j => jz j 1) (fun j => jz j 2) y n L 80 0 (0, 0, T)).2.1)])) :: (h1, .inl (cI, 24, .inl ((cutL (foC fo) (fwC ct fo wz wn wt nw L) (fjC ct fo jn jt nj L) (fun j => jz j 1) (fun j => jz j 2) y n L 80 0 (0, 0, T)).2.2 1))) :: (h2, .inl (cI, 24, .inl ((cutL (foC fo) (fwC ct fo wz wn wt nw L) (fjC ct fo jn jt nj L) (fun j => jz j 1) (fun j => jz j 2) y n L 80 0 (0, 0, T)).2.2 2))) :: (h3, .inl (cI, 24, .inl ((cutL (foC fo) (fwC ct fo wz wn wt nw L) (fjC ct fo jn jt nj L) (fun j => jz j 1) (fun j => jz j 2) y n L 80 0 (0, 0, T)).2.2 3))) :: (h4, .inl (cI, 24, .inl ((cutL (foC fo) (fwC ct fo wz wn wt nw L) (fjC ct fo jn jt nj L) (fun j => jz j 1) (fun j => jz j 2) y n L 80 0 (0, 0, T)).2.2 4))) :: (hx_, .inr (4, [.ref hxb, .int (nI n)])) :: (hxb, .inl (cI, 80, .inl (cpF xf L n))) :: (v, .inr (8, [.ref t, .ref vw, .ref vj, .int (nI nw), .int (nI nj)])) :: (vw, .inl (cW, 40, .inr (.inr (.inr (.inr wf))))) :: (vj, .inl (cJ, 8, .inr (.inr (.inr (.inr jf))))) :: (t, .inr (3, [.int (nI ct), .ref fa])) :: (fa, .inl (cI, 32, .inl fo)) :: (th, .inr (4, [.ref tb, .int 0])) :: (tb, .inl (cI, 80, .inl L)) :: dy) := by
  refine mu_of (cc := cX10_read) (maxL := 3) (ret := (some .int)) (by decide) rfl (Nat.le_of_ble_eq_true rfl) ?_
  intro pr en ss mi below meth cd X hK A hA hP hD hS ls hl
  obtain ⟨hx, hb, hml, hown, hts, hr, hlocks⟩ := id X
  have fl_43 := hts (.fieldLink RX10 43 "WordTables" "line" "LWordTables$Row;") (by decide +kernel)
  have fl_51 := hts (.fieldLink RX10 51 "WordTables" "cutter" "LWordTables$Cutter;") (by decide +kernel)
  have fl_83 := hts (.fieldLink RX10 83 "WordTables" "spare" "LWordTables$Tokens;") (by decide +kernel)
  have in_X10 : ∀ w ∈ wsX100, w ∈ wsX10_read := by decide +kernel
  have hl : lv_has ls 3 [(0, .ref x), (1, .int y)] := hl
  refine lv_bipush (v := -3) hx hb dX10_read_0 (by decide) ?_
  refine lv_istore_n (lv' := [(2, _), (0, _), (1, _)]) hx hb dX10_read_2 rfl hl (by decide) rfl (fun ls hl => ?_)
  refine lv_iload_n hx hb dX10_read_3 rfl (lv_at hl 2 rfl) ?_
  refine ro_S (n := 1) X hK (c_X10_isLanguage) gX10_read_X10_isLanguage rfl (by decide +kernel) ⟨rfl, rfl⟩ ⟨Nat.le_of_ble_eq_true rfl, Nat.le_of_ble_eq_true rfl⟩ (hP.sub [] rfl) rfl hl.1 rfl (Nat.le_of_ble_eq_true rfl) dX10_read_4 ⟨Nat.zero_le _, Nat.zero_le _⟩ ?_
  refine lv_if_eq (tgt := 35) hx hb dX10_read_7 (by decide) (fun c_7 => ?_) (fun c_7 => ?_)
  · replace c_7 := bI_0.mp c_7
    exact absurd c_7 (by rw [hlg]; decide)
  · replace c_7 := bI_n0.mp c_7
    refine lv_aload_n hx hb dX10_read_10 rfl (lv_at hl 1 rfl) ?_
    refine va_get (D := D) (ci := 10) (C := RX10) (T := TX10) (N := 10) hx hb hts in_X10 hown hK hP 0 rfl rfl 4 (by decide) fl_51 (fun _ h9 => h9) rfl dX10_read_11 ?_
    refine lv_iload_n hx hb dX10_read_14 rfl (lv_at hl 2 rfl) ?_
    refine lv_aload_n hx hb dX10_read_15 rfl (lv_at hl 1 rfl) ?_
    refine va_get (D := D) (ci := 10) (C := RX10) (T := TX10) (N := 10) hx hb hts in_X10 hown hK hP 0 rfl rfl 9 (by decide) fl_83 (fun _ h9 => h9) rfl dX10_read_16 ?_
    refine mu_VT (n := 2) (dy := dy) [_, _, _, _, _, _, _, _, _, _, _, _, _, _, _, _] [_, _, _, _, _, _, _, _, _, _, _, _, _, _, _] [_, _, _, _, _, _, _, _, _, _, _, _, _, _, _] X hK (c_X1_cutLine (fo := fo) (L := L) (xf := xf) (xn := xn) (lg := y) (T := T) (tn0 := tn0) (tm0 := tm0) (iv := iv) (lg0 := lg0) hct hn hnw hwf hdw hnj hjf hdj) gX10_read_X1_cutLine rfl (by decide +kernel) ⟨rfl, rfl⟩ ⟨Nat.le_of_ble_eq_true rfl, Nat.le_of_ble_eq_true rfl⟩ [1, 2, 3, 4, 5, 6, 7, 8, 9, 10, 11, 12, 13, 14, 15] rfl rfl rfl rfl hA hP hD hS (va_recv hK hP (ci := 1) (q0 := 1) rfl rfl) rfl hl.1 rfl (Nat.le_of_ble_eq_true rfl) dX10_read_19 ⟨Nat.zero_le _, Nat.zero_le _⟩ (fun H locs hP hD hS => ?_)
    have hP : va_P D vwCl ((x, .inr (10, [.ref t, .ref d, .ref v, .ref th, .ref z, .ref g, .ref u, .ref w, .ref k, .ref h])) :: (z, .inr (1, [.ref t, .ref v, .ref th, .ref h, _])) :: (h, .inr (7, [.ref hx_, .ref h1, .ref h2, .ref h3, .ref h4, _, _])) :: (h1, .inl (cI, 24, .inl _)) :: (h2, .inl (cI, 24, .inl _)) :: (h3, .inl (cI, 24, .inl _)) :: (h4, .inl (cI, 24, .inl _)) :: (hx_, .inr (4, [.ref hxb, _])) :: (hxb, .inl (cI, 80, .inl _)) :: (v, .inr (8, [.ref t, .ref vw, .ref vj, _, _])) :: (vw, .inl (cW, 40, .inr (.inr (.inr (.inr _))))) :: (vj, .inl (cJ, 8, .inr (.inr (.inr (.inr _))))) :: (t, .inr (3, [_, .ref fa])) :: (fa, .inl (cI, 32, .inl _)) :: (th, .inr (4, [.ref tb, _])) :: (tb, .inl (cI, 80, .inl _)) :: dy) H := hP
    have hD : va_D A ((x, .inr (10, [.ref t, .ref d, .ref v, .ref th, .ref z, .ref g, .ref u, .ref w, .ref k, .ref h])) :: (z, .inr (1, [.ref t, .ref v, .ref th, .ref h, _])) :: (h, .inr (7, [.ref hx_, .ref h1, .ref h2, .ref h3, .ref h4, _, _])) :: (h1, .inl (cI, 24, .inl _)) :: (h2, .inl (cI, 24, .inl _)) :: (h3, .inl (cI, 24, .inl _)) :: (h4, .inl (cI, 24, .inl _)) :: (hx_, .inr (4, [.ref hxb, _])) :: (hxb, .inl (cI, 80, .inl _)) :: (v, .inr (8, [.ref t, .ref vw, .ref vj, _, _])) :: (vw, .inl (cW, 40, .inr (.inr (.inr (.inr _))))) :: (vj, .inl (cJ, 8, .inr (.inr (.inr (.inr _))))) :: (t, .inr (3, [_, .ref fa])) :: (fa, .inl (cI, 32, .inl _)) :: (th, .inr (4, [.ref tb, _])) :: (tb, .inl (cI, 80, .inl _)) :: dy) := hD
    refine lv_if_eq (tgt := 32) hx hb dX10_read_22 (by decide) (fun c_22 => ?_) (fun c_22 => ?_)
    · replace c_22 := bI_0.mp c_22
      refine lv_bipush (v := -5) hx hb dX10_read_32 (by decide) ?_
      refine lv_istore_n (lv' := [(2, _), (0, _), (1, _)]) hx hb dX10_read_34 rfl hl (by decide) rfl (fun ls hl => ?_)
      refine lv_aload_n hx hb dX10_read_35 rfl (lv_at hl 1 rfl) ?_
      refine va_get (D := D) (ci := 10) (C := RX10) (T := TX10) (N := 10) hx hb hts in_X10 hown hK hP 0 rfl rfl 3 (by decide) fl_43 (fun _ h9 => h9) rfl dX10_read_36 ?_
      refine mu_V (n := 0) X hK (c_X4_clear) gX10_read_X4_clear rfl (by decide +kernel) ⟨rfl, rfl⟩ ⟨Nat.le_of_ble_eq_true rfl, Nat.le_of_ble_eq_true rfl⟩ [14, 15] rfl rfl rfl rfl hA hP hD hS (va_recv hK hP (ci := 4) (q0 := 14) rfl rfl) rfl hl.1 rfl (Nat.le_of_ble_eq_true rfl) dX10_read_39 ⟨Nat.zero_le _, Nat.zero_le _⟩ (fun H locs hP hD hS => ?_)
      have hP : va_P D vwCl ((x, .inr (10, [.ref t, .ref d, .ref v, .ref th, .ref z, .ref g, .ref u, .ref w, .ref k, .ref h])) :: (z, .inr (1, [.ref t, .ref v, .ref th, .ref h, _])) :: (h, .inr (7, [.ref hx_, .ref h1, .ref h2, .ref h3, .ref h4, _, _])) :: (h1, .inl (cI, 24, .inl _)) :: (h2, .inl (cI, 24, .inl _)) :: (h3, .inl (cI, 24, .inl _)) :: (h4, .inl (cI, 24, .inl _)) :: (hx_, .inr (4, [.ref hxb, _])) :: (hxb, .inl (cI, 80, .inl _)) :: (v, .inr (8, [.ref t, .ref vw, .ref vj, _, _])) :: (vw, .inl (cW, 40, .inr (.inr (.inr (.inr _))))) :: (vj, .inl (cJ, 8, .inr (.inr (.inr (.inr _))))) :: (t, .inr (3, [_, .ref fa])) :: (fa, .inl (cI, 32, .inl _)) :: (th, .inr (4, [.ref tb, _])) :: (tb, .inl (cI, 80, .inl _)) :: dy) H := hP
      have hD : va_D A ((x, .inr (10, [.ref t, .ref d, .ref v, .ref th, .ref z, .ref g, .ref u, .ref w, .ref k, .ref h])) :: (z, .inr (1, [.ref t, .ref v, .ref th, .ref h, _])) :: (h, .inr (7, [.ref hx_, .ref h1, .ref h2, .ref h3, .ref h4, _, _])) :: (h1, .inl (cI, 24, .inl _)) :: (h2, .inl (cI, 24, .inl _)) :: (h3, .inl (cI, 24, .inl _)) :: (h4, .inl (cI, 24, .inl _)) :: (hx_, .inr (4, [.ref hxb, _])) :: (hxb, .inl (cI, 80, .inl _)) :: (v, .inr (8, [.ref t, .ref vw, .ref vj, _, _])) :: (vw, .inl (cW, 40, .inr (.inr (.inr (.inr _))))) :: (vj, .inl (cJ, 8, .inr (.inr (.inr (.inr _))))) :: (t, .inr (3, [_, .ref fa])) :: (fa, .inl (cI, 32, .inl _)) :: (th, .inr (4, [.ref tb, _])) :: (tb, .inl (cI, 80, .inl _)) :: dy) := hD
      refine lv_iload_n hx hb dX10_read_42 rfl (lv_at hl 0 rfl) ?_
      exact mu_iret X hP hS (rfl) (rfl) dX10_read_43
    · replace c_22 := bI_n0.mp c_22
      exact absurd (of_decide_eq_true c_22) hok

def aValueN (nw : Nat) (wz : Nat → Nat → Int32) (y e : Int32) : Int32 := match ixO nw y with
  | none => -2
  | some j => if (!decide (e < 0) && decide (e ≤ 1000)) = true then (if wz j 2 &&& 32 = 0 then -4 else wz j 3) else -3
def aPluralN (nw : Nat) (wz : Nat → Nat → Int32) (y e : Int32) : Int32 := match ixO nw y with
  | none => -2
  | some j => if e = -1 ∨ (ixO nw e).isSome = true then (if y = e then -4 else wz j 4) else -2
def aReferN (nw tc : Nat) (wz : Nat → Nat → Int32) (y e : Int32) : Int32 := match ixO nw y with
  | none => -2
  | some j => if alB (nI tc) e = true then (if wz j 2 &&& 16 = 0 then -4 else wz j 5) else -3

set_option maxHeartbeats 1000000 in
set_option maxRecDepth 100000 in
theorem c_X10_value_n {l : Launch} {D : va_G} {cI cJ cW : ClassId} {x t d v th z g u w k h : Nat} {vw vj nw nj : Nat} {wf : Nat → Option Nat} {dy : va_W} {wa : Nat → Nat → Nat} {wz : Nat → Nat → Int32} {wn : Nat → Nat} {wt : Nat → Nat → Int32} {y e : Int32} (hnw : nw ≤ 40) (hwf : ∀ i, i < nw → wf i = some (wa i 0)) (hdw : Dw cI wa wz wn wt nw dy) (hno : ∀ j, j < nw → y = nI j → ¬ ((!decide (e < 0) && decide (e ≤ 1000)) = true ∧ ¬ wz j 2 &&& 32 = 0)) : RO l yX10_value wsX10_value { frames := 1, cells := 0, slots := 0, locals := 21 } D (ty3 cI cJ cW) [.ref x, .int y, .int e] ((x, .inr (10, [.ref t, .ref d, .ref v, .ref th, .ref z, .ref g, .ref u, .ref w, .ref k, .ref h])) :: (v, .inr (8, [.ref t, .ref vw, .ref vj, .int (nI nw), .int (nI nj)])) :: (vw, .inl (cW, 40, .inr (.inr (.inr (.inr wf))))) :: dy) (.int (aValueN nw wz y e)) := by
  refine ro_of (cc := cX10_value) (maxL := 5) (ret := (some .int)) (by decide) rfl (Nat.le_of_ble_eq_true rfl) ?_
  intro pr en ss mi below meth cd X hP hK ls hl
  obtain ⟨hx, hb, hml, hown, hts, hr, hlocks⟩ := id X
  have fl_39 := hts (.fieldLink RX10 39 "WordTables" "vocabulary" "LWordTables$Vocabulary;") (by decide +kernel)
  have in_X10 : ∀ w ∈ wsX100, w ∈ wsX10_value := by decide +kernel
  have hl : lv_has ls 5 [(0, .ref x), (1, .int y), (2, .int e)] := hl
  refine lv_aload_n hx hb dX10_value_0 rfl (lv_at hl 0 rfl) ?_
  refine va_get (D := D) (ci := 10) (C := RX10) (T := TX10) (N := 10) hx hb hts in_X10 hown hK hP 0 rfl rfl 2 (by decide) fl_39 (fun _ h9 => h9) rfl dX10_value_1 ?_
  refine lv_iload_n hx hb dX10_value_4 rfl (lv_at hl 1 rfl) ?_
  refine ro_V (n := 1) X hK (c_X8_known) gX10_value_X8_known rfl (by decide +kernel) ⟨rfl, rfl⟩ ⟨Nat.le_of_ble_eq_true rfl, Nat.le_of_ble_eq_true rfl⟩ (hP.sub [1, 2] rfl) (va_recv hK hP (ci := 8) (q0 := 1) rfl rfl) rfl hl.1 rfl (Nat.le_of_ble_eq_true rfl) dX10_value_5 ⟨Nat.zero_le _, Nat.zero_le _⟩ ?_
  refine lv_splitq (fun e_5 => ?_) (fun q_5 e_5 => ?_)
  · refine lv_astore_nN (lv' := [(3, _), (0, _), (1, _), (2, _)]) hx hb dX10_value_8 rfl hl (by decide) rfl (fun ls hl => ?_)
    refine lv_aload_nN hx hb dX10_value_9 rfl (lv_at hl 0 rfl) ?_
    refine lv_ifnonnullN hx hb dX10_value_10 ?_
    refine lv_bipush (v := -2) hx hb dX10_value_13 (by decide) ?_
    exact ro_iret X (by simp [aValueN, ixO_out (kn_none e_5 hnw hwf)]) dX10_value_15
  · obtain ⟨j_5, hj_5, rfl, rfl⟩ := kn_some e_5 hnw hwf
    have hw_5 : va_P D vwCl [((wa j_5 0), .inr (9, [.ref (wa j_5 1), .int (wz j_5 1), .int (wz j_5 2), .int (wz j_5 3), .int (wz j_5 4), .int (wz j_5 5)])), ((wa j_5 1), .inr (4, [.ref (wa j_5 2), .int (nI (wn j_5))])), ((wa j_5 2), .inl (cI, (wn j_5), .inl (wt j_5)))] _ := memP (w := wCells cI wa wz wn wt j_5) hP (fun q hq => List.mem_cons_of_mem _ (List.mem_cons_of_mem _ (List.mem_cons_of_mem _ ((hdw j_5 hj_5).2 q hq))))
    refine lv_astore_n (lv' := [(3, _), (0, _), (1, _), (2, _)]) hx hb dX10_value_8 rfl hl (by decide) rfl (fun ls hl => ?_)
    refine lv_aload_n hx hb dX10_value_9 rfl (lv_at hl 0 rfl) ?_
    refine lv_ifnonnull (tgt := 16) hx hb dX10_value_10 (by decide) ?_
    refine lv_iload_n hx hb dX10_value_16 rfl (lv_at hl 3 rfl) ?_
    refine lv_if_lt (tgt := 27) hx hb dX10_value_17 (by decide) (fun c_17 => ?_) (fun c_17 => ?_)
    · refine lv_bipush (v := -3) hx hb dX10_value_27 (by decide) ?_
      exact ro_iret X (by simp [aValueN, ixO_nI hj_5 (show nw < 2 ^ 31 by omega), c_17]) dX10_value_29
    · refine lv_iload_n hx hb dX10_value_20 rfl (lv_at hl 3 rfl) ?_
      refine lv_sipush (v := 1000) hx hb dX10_value_21 (by decide) ?_
      refine lv_icmp_le (tgt := 30) hx hb dX10_value_24 (by decide) (fun c_24 => ?_) (fun c_24 => ?_)
      · refine lv_aload_n hx hb dX10_value_30 rfl (lv_at hl 0 rfl) ?_
        refine lv_bipush (v := 32) hx hb dX10_value_31 (by decide) ?_
        refine ro_V (n := 1) X hK (c_X9_isOneOf) gX10_value_X9_isOneOf rfl (by decide +kernel) ⟨rfl, rfl⟩ ⟨Nat.le_of_ble_eq_true rfl, Nat.le_of_ble_eq_true rfl⟩ (hw_5.sub [0] rfl) (va_recv hK hw_5 (ci := 9) (q0 := 0) rfl rfl) rfl hl.1 rfl (Nat.le_of_ble_eq_true rfl) dX10_value_33 ⟨Nat.zero_le _, Nat.zero_le _⟩ ?_
        refine lv_if_ne (tgt := 42) hx hb dX10_value_36 (by decide) (fun c_36 => ?_) (fun c_36 => ?_)
        · replace c_36 := bI_n0.mp c_36
          exact absurd ⟨by simp [c_17, c_24], by simpa using c_36⟩ (hno j_5 hj_5 rfl)
        · replace c_36 := bI_0.mp c_36
          refine lv_bipush (v := -4) hx hb dX10_value_39 (by decide) ?_
          exact ro_iret X (by simp at c_36; simp [aValueN, ixO_nI hj_5 (show nw < 2 ^ 31 by omega), c_17, c_24, c_36]) dX10_value_41
      · refine lv_bipush (v := -3) hx hb dX10_value_27 (by decide) ?_
        exact ro_iret X (by simp [aValueN, ixO_nI hj_5 (show nw < 2 ^ 31 by omega), c_17, c_24]) dX10_value_29

set_option maxHeartbeats 1000000 in
set_option maxRecDepth 100000 in
theorem c_X10_value {l : Launch} {D : va_G} {cI cJ cW : ClassId} {sz : Nat} {x t d v th z g u w k h : Nat} {vw vj nw nj : Nat} {wf : Nat → Option Nat} {dy : va_W} {wa : Nat → Nat → Nat} {wz : Nat → Nat → Int32} {wn : Nat → Nat} {wt : Nat → Nat → Int32} {e : Int32} {j : Nat} (hnw : nw ≤ 40) (hwf : ∀ i, i < nw → wf i = some (wa i 0)) (hdw : Dw cI wa wz wn wt nw dy) (hj : j < nw) (hok : (!decide (e < 0) && decide (e ≤ 1000)) = true) (hk2 : ¬ wz j 2 &&& 32 = 0) : MU l yX10_value wsX10_value { frames := 1, cells := 0, slots := 0, locals := 21 } D (ty3 cI cJ cW) [.ref x, .int (nI j), .int e] ((x, .inr (10, [.ref t, .ref d, .ref v, .ref th, .ref z, .ref g, .ref u, .ref w, .ref k, .ref h])) :: (v, .inr (8, [.ref t, .ref vw, .ref vj, .int (nI nw), .int (nI nj)])) :: (vw, .inl (cW, 40, .inr (.inr (.inr (.inr wf))))) :: dy) sz (some (.int (wz j 3))) ((x, .inr (10, [.ref t, .ref d, .ref v, .ref th, .ref z, .ref g, .ref u, .ref w, .ref k, .ref h])) :: (v, .inr (8, [.ref t, .ref vw, .ref vj, .int (nI nw), .int (nI nj)])) :: (vw, .inl (cW, 40, .inr (.inr (.inr (.inr wf))))) :: (dySet dy (wa j 0) (.inr (9, [.ref (wa j 1), .int (wz j 1), .int (wz j 2), .int e, .int (wz j 4), .int (wz j 5)])))) := by
  refine mu_of (cc := cX10_value) (maxL := 5) (ret := (some .int)) (by decide) rfl (Nat.le_of_ble_eq_true rfl) ?_
  intro pr en ss mi below meth cd X hK A hA hP hD hS ls hl
  obtain ⟨hx, hb, hml, hown, hts, hr, hlocks⟩ := id X
  have fl_147 := hts (.fieldLink RX10 147 "WordTables$Word" "worth" "I") (by decide +kernel)
  have fl_39 := hts (.fieldLink RX10 39 "WordTables" "vocabulary" "LWordTables$Vocabulary;") (by decide +kernel)
  have in_X10 : ∀ w ∈ wsX100, w ∈ wsX10_value := by decide +kernel
  have in_X9 : ∀ w ∈ wsX90, w ∈ wsX10_value := by decide +kernel
  have hl : lv_has ls 5 [(0, .ref x), (1, .int (nI j)), (2, .int e)] := hl
  refine lv_aload_n hx hb dX10_value_0 rfl (lv_at hl 0 rfl) ?_
  refine va_get (D := D) (ci := 10) (C := RX10) (T := TX10) (N := 10) hx hb hts in_X10 hown hK hP 0 rfl rfl 2 (by decide) fl_39 (fun _ h9 => h9) rfl dX10_value_1 ?_
  refine lv_iload_n hx hb dX10_value_4 rfl (lv_at hl 1 rfl) ?_
  refine ro_V (n := 1) X hK (c_X8_known) gX10_value_X8_known rfl (by decide +kernel) ⟨rfl, rfl⟩ ⟨Nat.le_of_ble_eq_true rfl, Nat.le_of_ble_eq_true rfl⟩ (hP.sub [1, 2] rfl) (va_recv hK hP (ci := 8) (q0 := 1) rfl rfl) rfl hl.1 rfl (Nat.le_of_ble_eq_true rfl) dX10_value_5 ⟨Nat.zero_le _, Nat.zero_le _⟩ ?_
  refine rf_eq (kn_nI hj hnw hwf) ?_
  have hw : va_P D vwCl [((wa j 0), .inr (9, [.ref (wa j 1), .int (wz j 1), .int (wz j 2), .int (wz j 3), .int (wz j 4), .int (wz j 5)])), ((wa j 1), .inr (4, [.ref (wa j 2), .int (nI (wn j))])), ((wa j 2), .inl (cI, (wn j), .inl (wt j)))] _ := memP (w := wCells cI wa wz wn wt j) hP (fun q hq => List.mem_cons_of_mem _ (List.mem_cons_of_mem _ (List.mem_cons_of_mem _ ((hdw j hj).2 q hq))))
  refine lv_astore_n (lv' := [(3, _), (0, _), (1, _), (2, _)]) hx hb dX10_value_8 rfl hl (by decide) rfl (fun ls hl => ?_)
  refine lv_aload_n hx hb dX10_value_9 rfl (lv_at hl 0 rfl) ?_
  refine lv_ifnonnull (tgt := 16) hx hb dX10_value_10 (by decide) ?_
  refine lv_iload_n hx hb dX10_value_16 rfl (lv_at hl 3 rfl) ?_
  refine lv_if_lt (tgt := 27) hx hb dX10_value_17 (by decide) (fun c_17 => ?_) (fun c_17 => ?_)
  · exact absurd hok (by simp [c_17])
  · refine lv_iload_n hx hb dX10_value_20 rfl (lv_at hl 3 rfl) ?_
    refine lv_sipush (v := 1000) hx hb dX10_value_21 (by decide) ?_
    refine lv_icmp_le (tgt := 30) hx hb dX10_value_24 (by decide) (fun c_24 => ?_) (fun c_24 => ?_)
    · refine lv_aload_n hx hb dX10_value_30 rfl (lv_at hl 0 rfl) ?_
      refine lv_bipush (v := 32) hx hb dX10_value_31 (by decide) ?_
      refine ro_V (n := 1) X hK (c_X9_isOneOf) gX10_value_X9_isOneOf rfl (by decide +kernel) ⟨rfl, rfl⟩ ⟨Nat.le_of_ble_eq_true rfl, Nat.le_of_ble_eq_true rfl⟩ (hw.sub [0] rfl) (va_recv hK hw (ci := 9) (q0 := 0) rfl rfl) rfl hl.1 rfl (Nat.le_of_ble_eq_true rfl) dX10_value_33 ⟨Nat.zero_le _, Nat.zero_le _⟩ ?_
      refine lv_if_ne (tgt := 42) hx hb dX10_value_36 (by decide) (fun c_36 => ?_) (fun c_36 => ?_)
      · replace c_36 := bI_n0.mp c_36
        refine lv_aload_n hx hb dX10_value_42 rfl (lv_at hl 0 rfl) ?_
        refine va_get (D := D) (ci := 9) (C := RX9) (T := TX9) (N := 6) hx hb hts in_X9 hown hK hw 0 rfl rfl 3 (by decide) fl_147 (fun _ h9 => h9) rfl dX10_value_43 ?_
        refine lv_istore (lv' := [(4, _), (3, _), (0, _), (1, _), (2, _)]) hx hb dX10_value_46 hl (by decide) rfl (fun ls hl => ?_)
        refine lv_aload_n hx hb dX10_value_48 rfl (lv_at hl 1 rfl) ?_
        refine lv_iload_n hx hb dX10_value_49 rfl (lv_at hl 4 rfl) ?_
        refine put_dy (D := D) (ci := 9) (fs := [.ref (wa j 1), .int (wz j 1), .int (wz j 2), .int (wz j 3), .int (wz j 4), .int (wz j 5)]) (ty := .int) (C := RX9) (T := TX9) (N := 6) [_, _, _] hx hb hts in_X9 tyX9 tyX9_ok nmX9 hown hK hP hD hS ((hdw j hj).2 _ (by simp [wCells])) rfl 3 (by decide) fl_147 (fun _ h9 => h9) rfl (by decide +kernel) rfl rfl (Nat.le_of_ble_eq_true rfl) dX10_value_50 (fun H locs hP hD hS => ?_)
        have hP : va_P D vwCl ((x, .inr (10, [.ref t, .ref d, .ref v, .ref th, .ref z, .ref g, .ref u, .ref w, .ref k, .ref h])) :: (v, .inr (8, [.ref t, .ref vw, .ref vj, _, _])) :: (vw, .inl (cW, 40, .inr (.inr (.inr (.inr _))))) :: (dySet dy (wa j 0) (.inr (9, [.ref (wa j 1), .int (wz j 1), .int (wz j 2), .int e, .int (wz j 4), .int (wz j 5)])))) H := hP
        have hD : va_D A ((x, .inr (10, [.ref t, .ref d, .ref v, .ref th, .ref z, .ref g, .ref u, .ref w, .ref k, .ref h])) :: (v, .inr (8, [.ref t, .ref vw, .ref vj, _, _])) :: (vw, .inl (cW, 40, .inr (.inr (.inr (.inr _))))) :: (dySet dy (wa j 0) (.inr (9, [.ref (wa j 1), .int (wz j 1), .int (wz j 2), .int e, .int (wz j 4), .int (wz j 5)])))) := hD
        refine lv_iload hx hb dX10_value_53 (lv_at hl 0 rfl) ?_
        exact mu_iret X hP hS (rfl) (rfl) dX10_value_55
      · replace c_36 := bI_0.mp c_36
        exact absurd hk2 (by simpa using c_36)
    · exact absurd hok (by simp [c_17, c_24])

set_option maxHeartbeats 1000000 in
set_option maxRecDepth 100000 in
theorem c_X10_refer_n {l : Launch} {D : va_G} {cI cJ cW : ClassId} {x t d v th z g u w k h : Nat} {vw vj nw nj : Nat} {wf : Nat → Option Nat} {dy : va_W} {wa : Nat → Nat → Nat} {wz : Nat → Nat → Int32} {wn : Nat → Nat} {wt : Nat → Nat → Int32} {g0 g1 g2 mm tc : Nat} {fu : Int32} {y e : Int32} (hnw : nw ≤ 40) (hwf : ∀ i, i < nw → wf i = some (wa i 0)) (hdw : Dw cI wa wz wn wt nw dy) (hno : ∀ j, j < nw → y = nI j → ¬ (alB (nI tc) e = true ∧ ¬ wz j 2 &&& 16 = 0)) : RO l yX10_refer wsX10_refer { frames := 1, cells := 0, slots := 0, locals := 21 } D (ty3 cI cJ cW) [.ref x, .int y, .int e] ((x, .inr (10, [.ref t, .ref d, .ref v, .ref th, .ref z, .ref g, .ref u, .ref w, .ref k, .ref h])) :: (v, .inr (8, [.ref t, .ref vw, .ref vj, .int (nI nw), .int (nI nj)])) :: (vw, .inl (cW, 40, .inr (.inr (.inr (.inr wf))))) :: (g, .inr (6, [.ref g0, .ref g1, .ref g2, .int (nI tc), .int (nI mm), .int fu])) :: dy) (.int (aReferN nw tc wz y e)) := by
  refine ro_of (cc := cX10_refer) (maxL := 5) (ret := (some .int)) (by decide) rfl (Nat.le_of_ble_eq_true rfl) ?_
  intro pr en ss mi below meth cd X hP hK ls hl
  obtain ⟨hx, hb, hml, hown, hts, hr, hlocks⟩ := id X
  have fl_39 := hts (.fieldLink RX10 39 "WordTables" "vocabulary" "LWordTables$Vocabulary;") (by decide +kernel)
  have fl_58 := hts (.fieldLink RX10 58 "WordTables" "things" "LWordTables$Things;") (by decide +kernel)
  have in_X10 : ∀ w ∈ wsX100, w ∈ wsX10_refer := by decide +kernel
  have hl : lv_has ls 5 [(0, .ref x), (1, .int y), (2, .int e)] := hl
  refine lv_aload_n hx hb dX10_refer_0 rfl (lv_at hl 0 rfl) ?_
  refine va_get (D := D) (ci := 10) (C := RX10) (T := TX10) (N := 10) hx hb hts in_X10 hown hK hP 0 rfl rfl 2 (by decide) fl_39 (fun _ h9 => h9) rfl dX10_refer_1 ?_
  refine lv_iload_n hx hb dX10_refer_4 rfl (lv_at hl 1 rfl) ?_
  refine ro_V (n := 1) X hK (c_X8_known) gX10_refer_X8_known rfl (by decide +kernel) ⟨rfl, rfl⟩ ⟨Nat.le_of_ble_eq_true rfl, Nat.le_of_ble_eq_true rfl⟩ (hP.sub [1, 2] rfl) (va_recv hK hP (ci := 8) (q0 := 1) rfl rfl) rfl hl.1 rfl (Nat.le_of_ble_eq_true rfl) dX10_refer_5 ⟨Nat.zero_le _, Nat.zero_le _⟩ ?_
  refine lv_splitq (fun e_5 => ?_) (fun q_5 e_5 => ?_)
  · refine lv_astore_nN (lv' := [(3, _), (0, _), (1, _), (2, _)]) hx hb dX10_refer_8 rfl hl (by decide) rfl (fun ls hl => ?_)
    refine lv_aload_nN hx hb dX10_refer_9 rfl (lv_at hl 0 rfl) ?_
    refine lv_ifnonnullN hx hb dX10_refer_10 ?_
    refine lv_bipush (v := -2) hx hb dX10_refer_13 (by decide) ?_
    exact ro_iret X (by simp [aReferN, ixO_out (kn_none e_5 hnw hwf)]) dX10_refer_15
  · obtain ⟨j_5, hj_5, rfl, rfl⟩ := kn_some e_5 hnw hwf
    have hw_5 : va_P D vwCl [((wa j_5 0), .inr (9, [.ref (wa j_5 1), .int (wz j_5 1), .int (wz j_5 2), .int (wz j_5 3), .int (wz j_5 4), .int (wz j_5 5)])), ((wa j_5 1), .inr (4, [.ref (wa j_5 2), .int (nI (wn j_5))])), ((wa j_5 2), .inl (cI, (wn j_5), .inl (wt j_5)))] _ := memP (w := wCells cI wa wz wn wt j_5) hP (fun q hq => List.mem_cons_of_mem _ (List.mem_cons_of_mem _ (List.mem_cons_of_mem _ (List.mem_cons_of_mem _ ((hdw j_5 hj_5).2 q hq)))))
    refine lv_astore_n (lv' := [(3, _), (0, _), (1, _), (2, _)]) hx hb dX10_refer_8 rfl hl (by decide) rfl (fun ls hl => ?_)
    refine lv_aload_n hx hb dX10_refer_9 rfl (lv_at hl 0 rfl) ?_
    refine lv_ifnonnull (tgt := 16) hx hb dX10_refer_10 (by decide) ?_
    refine lv_aload_n hx hb dX10_refer_16 rfl (lv_at hl 1 rfl) ?_
    refine va_get (D := D) (ci := 10) (C := RX10) (T := TX10) (N := 10) hx hb hts in_X10 hown hK hP 0 rfl rfl 5 (by decide) fl_58 (fun _ h9 => h9) rfl dX10_refer_17 ?_
    refine lv_iload_n hx hb dX10_refer_20 rfl (lv_at hl 3 rfl) ?_
    refine ro_V (n := 1) X hK (c_X6_areAll) gX10_refer_X6_areAll rfl (by decide +kernel) ⟨rfl, rfl⟩ ⟨Nat.le_of_ble_eq_true rfl, Nat.le_of_ble_eq_true rfl⟩ (hP.sub [3] rfl) (va_recv hK hP (ci := 6) (q0 := 3) rfl rfl) rfl hl.1 rfl (Nat.le_of_ble_eq_true rfl) dX10_refer_21 ⟨Nat.zero_le _, Nat.zero_le _⟩ ?_
    refine lv_if_ne (tgt := 30) hx hb dX10_refer_24 (by decide) (fun c_24 => ?_) (fun c_24 => ?_)
    · replace c_24 := bI_n0.mp c_24
      refine lv_aload_n hx hb dX10_refer_30 rfl (lv_at hl 0 rfl) ?_
      refine lv_bipush (v := 16) hx hb dX10_refer_31 (by decide) ?_
      refine ro_V (n := 1) X hK (c_X9_isOneOf) gX10_refer_X9_isOneOf rfl (by decide +kernel) ⟨rfl, rfl⟩ ⟨Nat.le_of_ble_eq_true rfl, Nat.le_of_ble_eq_true rfl⟩ (hw_5.sub [0] rfl) (va_recv hK hw_5 (ci := 9) (q0 := 0) rfl rfl) rfl hl.1 rfl (Nat.le_of_ble_eq_true rfl) dX10_refer_33 ⟨Nat.zero_le _, Nat.zero_le _⟩ ?_
      refine lv_if_ne (tgt := 42) hx hb dX10_refer_36 (by decide) (fun c_36 => ?_) (fun c_36 => ?_)
      · replace c_36 := bI_n0.mp c_36
        exact absurd ⟨c_24, by simpa using c_36⟩ (hno j_5 hj_5 rfl)
      · replace c_36 := bI_0.mp c_36
        refine lv_bipush (v := -4) hx hb dX10_refer_39 (by decide) ?_
        exact ro_iret X (by simp at c_36; simp [aReferN, ixO_nI hj_5 (show nw < 2 ^ 31 by omega), c_24, c_36]) dX10_refer_41
    · replace c_24 := bI_0.mp c_24
      refine lv_bipush (v := -3) hx hb dX10_refer_27 (by decide) ?_
      exact ro_iret X (by simp [aReferN, ixO_nI hj_5 (show nw < 2 ^ 31 by omega), c_24]) dX10_refer_29

set_option maxHeartbeats 1000000 in
set_option maxRecDepth 100000 in
theorem c_X10_refer {l : Launch} {D : va_G} {cI cJ cW : ClassId} {sz : Nat} {x t d v th z g u w k h : Nat} {vw vj nw nj : Nat} {wf : Nat → Option Nat} {dy : va_W} {wa : Nat → Nat → Nat} {wz : Nat → Nat → Int32} {wn : Nat → Nat} {wt : Nat → Nat → Int32} {g0 g1 g2 mm tc : Nat} {fu : Int32} {e : Int32} {j : Nat} (hnw : nw ≤ 40) (hwf : ∀ i, i < nw → wf i = some (wa i 0)) (hdw : Dw cI wa wz wn wt nw dy) (hj : j < nw) (hok : alB (nI tc) e = true) (hk2 : ¬ wz j 2 &&& 16 = 0) : MU l yX10_refer wsX10_refer { frames := 1, cells := 0, slots := 0, locals := 21 } D (ty3 cI cJ cW) [.ref x, .int (nI j), .int e] ((x, .inr (10, [.ref t, .ref d, .ref v, .ref th, .ref z, .ref g, .ref u, .ref w, .ref k, .ref h])) :: (v, .inr (8, [.ref t, .ref vw, .ref vj, .int (nI nw), .int (nI nj)])) :: (vw, .inl (cW, 40, .inr (.inr (.inr (.inr wf))))) :: (g, .inr (6, [.ref g0, .ref g1, .ref g2, .int (nI tc), .int (nI mm), .int fu])) :: dy) sz (some (.int (wz j 5))) ((x, .inr (10, [.ref t, .ref d, .ref v, .ref th, .ref z, .ref g, .ref u, .ref w, .ref k, .ref h])) :: (v, .inr (8, [.ref t, .ref vw, .ref vj, .int (nI nw), .int (nI nj)])) :: (vw, .inl (cW, 40, .inr (.inr (.inr (.inr wf))))) :: (g, .inr (6, [.ref g0, .ref g1, .ref g2, .int (nI tc), .int (nI mm), .int fu])) :: (dySet dy (wa j 0) (.inr (9, [.ref (wa j 1), .int (wz j 1), .int (wz j 2), .int (wz j 3), .int (wz j 4), .int e])))) := by
  refine mu_of (cc := cX10_refer) (maxL := 5) (ret := (some .int)) (by decide) rfl (Nat.le_of_ble_eq_true rfl) ?_
  intro pr en ss mi below meth cd X hK A hA hP hD hS ls hl
  obtain ⟨hx, hb, hml, hown, hts, hr, hlocks⟩ := id X
  have fl_231 := hts (.fieldLink RX10 231 "WordTables$Word" "refersTo" "I") (by decide +kernel)
  have fl_39 := hts (.fieldLink RX10 39 "WordTables" "vocabulary" "LWordTables$Vocabulary;") (by decide +kernel)
  have fl_58 := hts (.fieldLink RX10 58 "WordTables" "things" "LWordTables$Things;") (by decide +kernel)
  have in_X10 : ∀ w ∈ wsX100, w ∈ wsX10_refer := by decide +kernel
  have in_X9 : ∀ w ∈ wsX90, w ∈ wsX10_refer := by decide +kernel
  have hl : lv_has ls 5 [(0, .ref x), (1, .int (nI j)), (2, .int e)] := hl
  refine lv_aload_n hx hb dX10_refer_0 rfl (lv_at hl 0 rfl) ?_
  refine va_get (D := D) (ci := 10) (C := RX10) (T := TX10) (N := 10) hx hb hts in_X10 hown hK hP 0 rfl rfl 2 (by decide) fl_39 (fun _ h9 => h9) rfl dX10_refer_1 ?_
  refine lv_iload_n hx hb dX10_refer_4 rfl (lv_at hl 1 rfl) ?_
  refine ro_V (n := 1) X hK (c_X8_known) gX10_refer_X8_known rfl (by decide +kernel) ⟨rfl, rfl⟩ ⟨Nat.le_of_ble_eq_true rfl, Nat.le_of_ble_eq_true rfl⟩ (hP.sub [1, 2] rfl) (va_recv hK hP (ci := 8) (q0 := 1) rfl rfl) rfl hl.1 rfl (Nat.le_of_ble_eq_true rfl) dX10_refer_5 ⟨Nat.zero_le _, Nat.zero_le _⟩ ?_
  refine rf_eq (kn_nI hj hnw hwf) ?_
  have hw : va_P D vwCl [((wa j 0), .inr (9, [.ref (wa j 1), .int (wz j 1), .int (wz j 2), .int (wz j 3), .int (wz j 4), .int (wz j 5)])), ((wa j 1), .inr (4, [.ref (wa j 2), .int (nI (wn j))])), ((wa j 2), .inl (cI, (wn j), .inl (wt j)))] _ := memP (w := wCells cI wa wz wn wt j) hP (fun q hq => List.mem_cons_of_mem _ (List.mem_cons_of_mem _ (List.mem_cons_of_mem _ (List.mem_cons_of_mem _ ((hdw j hj).2 q hq)))))
  refine lv_astore_n (lv' := [(3, _), (0, _), (1, _), (2, _)]) hx hb dX10_refer_8 rfl hl (by decide) rfl (fun ls hl => ?_)
  refine lv_aload_n hx hb dX10_refer_9 rfl (lv_at hl 0 rfl) ?_
  refine lv_ifnonnull (tgt := 16) hx hb dX10_refer_10 (by decide) ?_
  refine lv_aload_n hx hb dX10_refer_16 rfl (lv_at hl 1 rfl) ?_
  refine va_get (D := D) (ci := 10) (C := RX10) (T := TX10) (N := 10) hx hb hts in_X10 hown hK hP 0 rfl rfl 5 (by decide) fl_58 (fun _ h9 => h9) rfl dX10_refer_17 ?_
  refine lv_iload_n hx hb dX10_refer_20 rfl (lv_at hl 3 rfl) ?_
  refine ro_V (n := 1) X hK (c_X6_areAll) gX10_refer_X6_areAll rfl (by decide +kernel) ⟨rfl, rfl⟩ ⟨Nat.le_of_ble_eq_true rfl, Nat.le_of_ble_eq_true rfl⟩ (hP.sub [3] rfl) (va_recv hK hP (ci := 6) (q0 := 3) rfl rfl) rfl hl.1 rfl (Nat.le_of_ble_eq_true rfl) dX10_refer_21 ⟨Nat.zero_le _, Nat.zero_le _⟩ ?_
  refine lv_if_ne (tgt := 30) hx hb dX10_refer_24 (by decide) (fun c_24 => ?_) (fun c_24 => ?_)
  · replace c_24 := bI_n0.mp c_24
    refine lv_aload_n hx hb dX10_refer_30 rfl (lv_at hl 0 rfl) ?_
    refine lv_bipush (v := 16) hx hb dX10_refer_31 (by decide) ?_
    refine ro_V (n := 1) X hK (c_X9_isOneOf) gX10_refer_X9_isOneOf rfl (by decide +kernel) ⟨rfl, rfl⟩ ⟨Nat.le_of_ble_eq_true rfl, Nat.le_of_ble_eq_true rfl⟩ (hw.sub [0] rfl) (va_recv hK hw (ci := 9) (q0 := 0) rfl rfl) rfl hl.1 rfl (Nat.le_of_ble_eq_true rfl) dX10_refer_33 ⟨Nat.zero_le _, Nat.zero_le _⟩ ?_
    refine lv_if_ne (tgt := 42) hx hb dX10_refer_36 (by decide) (fun c_36 => ?_) (fun c_36 => ?_)
    · replace c_36 := bI_n0.mp c_36
      refine lv_aload_n hx hb dX10_refer_42 rfl (lv_at hl 0 rfl) ?_
      refine va_get (D := D) (ci := 9) (C := RX9) (T := TX9) (N := 6) hx hb hts in_X9 hown hK hw 0 rfl rfl 5 (by decide) fl_231 (fun _ h9 => h9) rfl dX10_refer_43 ?_
      refine lv_istore (lv' := [(4, _), (3, _), (0, _), (1, _), (2, _)]) hx hb dX10_refer_46 hl (by decide) rfl (fun ls hl => ?_)
      refine lv_aload_n hx hb dX10_refer_48 rfl (lv_at hl 1 rfl) ?_
      refine lv_iload_n hx hb dX10_refer_49 rfl (lv_at hl 4 rfl) ?_
      refine put_dy (D := D) (ci := 9) (fs := [.ref (wa j 1), .int (wz j 1), .int (wz j 2), .int (wz j 3), .int (wz j 4), .int (wz j 5)]) (ty := .int) (C := RX9) (T := TX9) (N := 6) [_, _, _, _] hx hb hts in_X9 tyX9 tyX9_ok nmX9 hown hK hP hD hS ((hdw j hj).2 _ (by simp [wCells])) rfl 5 (by decide) fl_231 (fun _ h9 => h9) rfl (by decide +kernel) rfl rfl (Nat.le_of_ble_eq_true rfl) dX10_refer_50 (fun H locs hP hD hS => ?_)
      have hP : va_P D vwCl ((x, .inr (10, [.ref t, .ref d, .ref v, .ref th, .ref z, .ref g, .ref u, .ref w, .ref k, .ref h])) :: (v, .inr (8, [.ref t, .ref vw, .ref vj, _, _])) :: (vw, .inl (cW, 40, .inr (.inr (.inr (.inr _))))) :: (g, .inr (6, [.ref g0, .ref g1, .ref g2, _, _, _])) :: (dySet dy (wa j 0) (.inr (9, [.ref (wa j 1), .int (wz j 1), .int (wz j 2), .int (wz j 3), .int (wz j 4), .int e])))) H := hP
      have hD : va_D A ((x, .inr (10, [.ref t, .ref d, .ref v, .ref th, .ref z, .ref g, .ref u, .ref w, .ref k, .ref h])) :: (v, .inr (8, [.ref t, .ref vw, .ref vj, _, _])) :: (vw, .inl (cW, 40, .inr (.inr (.inr (.inr _))))) :: (g, .inr (6, [.ref g0, .ref g1, .ref g2, _, _, _])) :: (dySet dy (wa j 0) (.inr (9, [.ref (wa j 1), .int (wz j 1), .int (wz j 2), .int (wz j 3), .int (wz j 4), .int e])))) := hD
      refine lv_iload hx hb dX10_refer_53 (lv_at hl 0 rfl) ?_
      exact mu_iret X hP hS (rfl) (rfl) dX10_refer_55
    · replace c_36 := bI_0.mp c_36
      exact absurd hk2 (by simpa using c_36)
  · replace c_24 := bI_0.mp c_24
    exact absurd hok (by rw [c_24]; decide)

set_option maxHeartbeats 1000000 in
set_option maxRecDepth 100000 in
theorem c_X10_plural_n {l : Launch} {D : va_G} {cI cJ cW : ClassId} {x t d v th z g u w k h : Nat} {vw vj nw nj : Nat} {wf : Nat → Option Nat} {dy : va_W} {wa : Nat → Nat → Nat} {wz : Nat → Nat → Int32} {wn : Nat → Nat} {wt : Nat → Nat → Int32} {y e : Int32} (hnw : nw ≤ 40) (hwf : ∀ i, i < nw → wf i = some (wa i 0)) (hdw : Dw cI wa wz wn wt nw dy) (hno : ∀ j, j < nw → y = nI j → ¬ ((e = -1 ∨ (ixO nw e).isSome = true) ∧ ¬ y = e)) : RO l yX10_plural wsX10_plural { frames := 1, cells := 0, slots := 0, locals := 21 } D (ty3 cI cJ cW) [.ref x, .int y, .int e] ((x, .inr (10, [.ref t, .ref d, .ref v, .ref th, .ref z, .ref g, .ref u, .ref w, .ref k, .ref h])) :: (v, .inr (8, [.ref t, .ref vw, .ref vj, .int (nI nw), .int (nI nj)])) :: (vw, .inl (cW, 40, .inr (.inr (.inr (.inr wf))))) :: dy) (.int (aPluralN nw wz y e)) := by
  refine ro_of (cc := cX10_plural) (maxL := 5) (ret := (some .int)) (by decide) rfl (Nat.le_of_ble_eq_true rfl) ?_
  intro pr en ss mi below meth cd X hP hK ls hl
  obtain ⟨hx, hb, hml, hown, hts, hr, hlocks⟩ := id X
  have fl_39 := hts (.fieldLink RX10 39 "WordTables" "vocabulary" "LWordTables$Vocabulary;") (by decide +kernel)
  have in_X10 : ∀ w ∈ wsX100, w ∈ wsX10_plural := by decide +kernel
  have hl : lv_has ls 5 [(0, .ref x), (1, .int y), (2, .int e)] := hl
  refine lv_aload_n hx hb dX10_plural_0 rfl (lv_at hl 0 rfl) ?_
  refine va_get (D := D) (ci := 10) (C := RX10) (T := TX10) (N := 10) hx hb hts in_X10 hown hK hP 0 rfl rfl 2 (by decide) fl_39 (fun _ h9 => h9) rfl dX10_plural_1 ?_
  refine lv_iload_n hx hb dX10_plural_4 rfl (lv_at hl 1 rfl) ?_
  refine ro_V (n := 1) X hK (c_X8_known) gX10_plural_X8_known rfl (by decide +kernel) ⟨rfl, rfl⟩ ⟨Nat.le_of_ble_eq_true rfl, Nat.le_of_ble_eq_true rfl⟩ (hP.sub [1, 2] rfl) (va_recv hK hP (ci := 8) (q0 := 1) rfl rfl) rfl hl.1 rfl (Nat.le_of_ble_eq_true rfl) dX10_plural_5 ⟨Nat.zero_le _, Nat.zero_le _⟩ ?_
  refine lv_splitq (fun e_5 => ?_) (fun q_5 e_5 => ?_)
  · refine lv_astore_nN (lv' := [(3, _), (0, _), (1, _), (2, _)]) hx hb dX10_plural_8 rfl hl (by decide) rfl (fun ls hl => ?_)
    refine lv_aload_nN hx hb dX10_plural_9 rfl (lv_at hl 0 rfl) ?_
    refine lv_ifnullN (tgt := 29) hx hb dX10_plural_10 (by decide) ?_
    refine lv_bipush (v := -2) hx hb dX10_plural_29 (by decide) ?_
    exact ro_iret X (by simp [aPluralN, ixO_out (kn_none e_5 hnw hwf)]) dX10_plural_31
  · obtain ⟨j_5, hj_5, rfl, rfl⟩ := kn_some e_5 hnw hwf
    have hw_5 : va_P D vwCl [((wa j_5 0), .inr (9, [.ref (wa j_5 1), .int (wz j_5 1), .int (wz j_5 2), .int (wz j_5 3), .int (wz j_5 4), .int (wz j_5 5)])), ((wa j_5 1), .inr (4, [.ref (wa j_5 2), .int (nI (wn j_5))])), ((wa j_5 2), .inl (cI, (wn j_5), .inl (wt j_5)))] _ := memP (w := wCells cI wa wz wn wt j_5) hP (fun q hq => List.mem_cons_of_mem _ (List.mem_cons_of_mem _ (List.mem_cons_of_mem _ ((hdw j_5 hj_5).2 q hq))))
    refine lv_astore_n (lv' := [(3, _), (0, _), (1, _), (2, _)]) hx hb dX10_plural_8 rfl hl (by decide) rfl (fun ls hl => ?_)
    refine lv_aload_n hx hb dX10_plural_9 rfl (lv_at hl 0 rfl) ?_
    refine lv_ifnull hx hb dX10_plural_10 ?_
    refine lv_iload_n hx hb dX10_plural_13 rfl (lv_at hl 3 rfl) ?_
    refine lv_iconst (v := -1) hx hb dX10_plural_14 (by decide) ?_
    refine lv_icmp_eq (tgt := 32) hx hb dX10_plural_15 (by decide) (fun c_15 => ?_) (fun c_15 => ?_)
    · refine lv_iload_n hx hb dX10_plural_32 rfl (lv_at hl 2 rfl) ?_
      refine lv_iload_n hx hb dX10_plural_33 rfl (lv_at hl 3 rfl) ?_
      refine lv_icmp_ne (tgt := 40) hx hb dX10_plural_34 (by decide) (fun c_34 => ?_) (fun c_34 => ?_)
      · exact absurd ⟨by first | exact Or.inl c_15 | exact Or.inr hx_23, c_34⟩ (hno j_5 hj_5 rfl)
      · refine lv_bipush (v := -4) hx hb dX10_plural_37 (by decide) ?_
        exact ro_iret X (by rw [aPluralN, ixO_nI hj_5 (show nw < 2 ^ 31 by omega)]; simp only []; rw [if_pos (by first | exact Or.inl c_15 | exact Or.inr hx_23), if_pos c_34]) dX10_plural_39
    · refine lv_aload_n hx hb dX10_plural_18 rfl (lv_at hl 1 rfl) ?_
      refine va_get (D := D) (ci := 10) (C := RX10) (T := TX10) (N := 10) hx hb hts in_X10 hown hK hP 0 rfl rfl 2 (by decide) fl_39 (fun _ h9 => h9) rfl dX10_plural_19 ?_
      refine lv_iload_n hx hb dX10_plural_22 rfl (lv_at hl 3 rfl) ?_
      refine ro_V (n := 1) X hK (c_X8_known) gX10_plural_X8_known rfl (by decide +kernel) ⟨rfl, rfl⟩ ⟨Nat.le_of_ble_eq_true rfl, Nat.le_of_ble_eq_true rfl⟩ (hP.sub [1, 2] rfl) (va_recv hK hP (ci := 8) (q0 := 1) rfl rfl) rfl hl.1 rfl (Nat.le_of_ble_eq_true rfl) dX10_plural_23 ⟨Nat.zero_le _, Nat.zero_le _⟩ ?_
      refine lv_splitq (fun e_23 => ?_) (fun q_23 e_23 => ?_)
      · refine lv_ifnonnullN hx hb dX10_plural_26 ?_
        refine lv_bipush (v := -2) hx hb dX10_plural_29 (by decide) ?_
        exact ro_iret X (by simp [aPluralN, ixO_nI hj_5 (show nw < 2 ^ 31 by omega), ixO_out (kn_none e_23 hnw hwf), c_15]) dX10_plural_31
      · have hx_23 : (ixO nw e).isSome = true := by rw [← Option.isSome_map (f := fun j => wa j 0), ← kn_ix hnw hwf, e_23]; rfl
        refine lv_ifnonnull (tgt := 32) hx hb dX10_plural_26 (by decide) ?_
        refine lv_iload_n hx hb dX10_plural_32 rfl (lv_at hl 2 rfl) ?_
        refine lv_iload_n hx hb dX10_plural_33 rfl (lv_at hl 3 rfl) ?_
        refine lv_icmp_ne (tgt := 40) hx hb dX10_plural_34 (by decide) (fun c_34 => ?_) (fun c_34 => ?_)
        · exact absurd ⟨by first | exact Or.inl c_15 | exact Or.inr hx_23, c_34⟩ (hno j_5 hj_5 rfl)
        · refine lv_bipush (v := -4) hx hb dX10_plural_37 (by decide) ?_
          exact ro_iret X (by rw [aPluralN, ixO_nI hj_5 (show nw < 2 ^ 31 by omega)]; simp only []; rw [if_pos (by first | exact Or.inl c_15 | exact Or.inr hx_23), if_pos c_34]) dX10_plural_39

set_option maxHeartbeats 1000000 in
set_option maxRecDepth 100000 in
theorem c_X10_plural {l : Launch} {D : va_G} {cI cJ cW : ClassId} {sz : Nat} {x t d v th z g u w k h : Nat} {vw vj nw nj : Nat} {wf : Nat → Option Nat} {dy : va_W} {wa : Nat → Nat → Nat} {wz : Nat → Nat → Int32} {wn : Nat → Nat} {wt : Nat → Nat → Int32} {e : Int32} {j : Nat} (hnw : nw ≤ 40) (hwf : ∀ i, i < nw → wf i = some (wa i 0)) (hdw : Dw cI wa wz wn wt nw dy) (hj : j < nw) (hok : e = -1 ∨ (ixO nw e).isSome = true) (hk2 : ¬ nI j = e) : MU l yX10_plural wsX10_plural { frames := 1, cells := 0, slots := 0, locals := 21 } D (ty3 cI cJ cW) [.ref x, .int (nI j), .int e] ((x, .inr (10, [.ref t, .ref d, .ref v, .ref th, .ref z, .ref g, .ref u, .ref w, .ref k, .ref h])) :: (v, .inr (8, [.ref t, .ref vw, .ref vj, .int (nI nw), .int (nI nj)])) :: (vw, .inl (cW, 40, .inr (.inr (.inr (.inr wf))))) :: dy) sz (some (.int (wz j 4))) ((x, .inr (10, [.ref t, .ref d, .ref v, .ref th, .ref z, .ref g, .ref u, .ref w, .ref k, .ref h])) :: (v, .inr (8, [.ref t, .ref vw, .ref vj, .int (nI nw), .int (nI nj)])) :: (vw, .inl (cW, 40, .inr (.inr (.inr (.inr wf))))) :: (dySet dy (wa j 0) (.inr (9, [.ref (wa j 1), .int (wz j 1), .int (wz j 2), .int (wz j 3), .int e, .int (wz j 5)])))) := by
  refine mu_of (cc := cX10_plural) (maxL := 5) (ret := (some .int)) (by decide) rfl (Nat.le_of_ble_eq_true rfl) ?_
  intro pr en ss mi below meth cd X hK A hA hP hD hS ls hl
  obtain ⟨hx, hb, hml, hown, hts, hr, hlocks⟩ := id X
  have fl_150 := hts (.fieldLink RX10 150 "WordTables$Word" "pluralOf" "I") (by decide +kernel)
  have fl_39 := hts (.fieldLink RX10 39 "WordTables" "vocabulary" "LWordTables$Vocabulary;") (by decide +kernel)
  have in_X10 : ∀ w ∈ wsX100, w ∈ wsX10_plural := by decide +kernel
  have in_X9 : ∀ w ∈ wsX90, w ∈ wsX10_plural := by decide +kernel
  have hl : lv_has ls 5 [(0, .ref x), (1, .int (nI j)), (2, .int e)] := hl
  refine lv_aload_n hx hb dX10_plural_0 rfl (lv_at hl 0 rfl) ?_
  refine va_get (D := D) (ci := 10) (C := RX10) (T := TX10) (N := 10) hx hb hts in_X10 hown hK hP 0 rfl rfl 2 (by decide) fl_39 (fun _ h9 => h9) rfl dX10_plural_1 ?_
  refine lv_iload_n hx hb dX10_plural_4 rfl (lv_at hl 1 rfl) ?_
  refine ro_V (n := 1) X hK (c_X8_known) gX10_plural_X8_known rfl (by decide +kernel) ⟨rfl, rfl⟩ ⟨Nat.le_of_ble_eq_true rfl, Nat.le_of_ble_eq_true rfl⟩ (hP.sub [1, 2] rfl) (va_recv hK hP (ci := 8) (q0 := 1) rfl rfl) rfl hl.1 rfl (Nat.le_of_ble_eq_true rfl) dX10_plural_5 ⟨Nat.zero_le _, Nat.zero_le _⟩ ?_
  refine rf_eq (kn_nI hj hnw hwf) ?_
  have hw : va_P D vwCl [((wa j 0), .inr (9, [.ref (wa j 1), .int (wz j 1), .int (wz j 2), .int (wz j 3), .int (wz j 4), .int (wz j 5)])), ((wa j 1), .inr (4, [.ref (wa j 2), .int (nI (wn j))])), ((wa j 2), .inl (cI, (wn j), .inl (wt j)))] _ := memP (w := wCells cI wa wz wn wt j) hP (fun q hq => List.mem_cons_of_mem _ (List.mem_cons_of_mem _ (List.mem_cons_of_mem _ ((hdw j hj).2 q hq))))
  refine lv_astore_n (lv' := [(3, _), (0, _), (1, _), (2, _)]) hx hb dX10_plural_8 rfl hl (by decide) rfl (fun ls hl => ?_)
  refine lv_aload_n hx hb dX10_plural_9 rfl (lv_at hl 0 rfl) ?_
  refine lv_ifnull hx hb dX10_plural_10 ?_
  refine lv_iload_n hx hb dX10_plural_13 rfl (lv_at hl 3 rfl) ?_
  refine lv_iconst (v := -1) hx hb dX10_plural_14 (by decide) ?_
  refine lv_icmp_eq (tgt := 32) hx hb dX10_plural_15 (by decide) (fun c_15 => ?_) (fun c_15 => ?_)
  · refine lv_iload_n hx hb dX10_plural_32 rfl (lv_at hl 2 rfl) ?_
    refine lv_iload_n hx hb dX10_plural_33 rfl (lv_at hl 3 rfl) ?_
    refine lv_icmp_ne (tgt := 40) hx hb dX10_plural_34 (by decide) (fun c_34 => ?_) (fun c_34 => ?_)
    · refine lv_aload_n hx hb dX10_plural_40 rfl (lv_at hl 0 rfl) ?_
      refine va_get (D := D) (ci := 9) (C := RX9) (T := TX9) (N := 6) hx hb hts in_X9 hown hK hw 0 rfl rfl 4 (by decide) fl_150 (fun _ h9 => h9) rfl dX10_plural_41 ?_
      refine lv_istore (lv' := [(4, _), (3, _), (0, _), (1, _), (2, _)]) hx hb dX10_plural_44 hl (by decide) rfl (fun ls hl => ?_)
      refine lv_aload_n hx hb dX10_plural_46 rfl (lv_at hl 1 rfl) ?_
      refine lv_iload_n hx hb dX10_plural_47 rfl (lv_at hl 4 rfl) ?_
      refine put_dy (D := D) (ci := 9) (fs := [.ref (wa j 1), .int (wz j 1), .int (wz j 2), .int (wz j 3), .int (wz j 4), .int (wz j 5)]) (ty := .int) (C := RX9) (T := TX9) (N := 6) [_, _, _] hx hb hts in_X9 tyX9 tyX9_ok nmX9 hown hK hP hD hS ((hdw j hj).2 _ (by simp [wCells])) rfl 4 (by decide) fl_150 (fun _ h9 => h9) rfl (by decide +kernel) rfl rfl (Nat.le_of_ble_eq_true rfl) dX10_plural_48 (fun H locs hP hD hS => ?_)
      have hP : va_P D vwCl ((x, .inr (10, [.ref t, .ref d, .ref v, .ref th, .ref z, .ref g, .ref u, .ref w, .ref k, .ref h])) :: (v, .inr (8, [.ref t, .ref vw, .ref vj, _, _])) :: (vw, .inl (cW, 40, .inr (.inr (.inr (.inr _))))) :: (dySet dy (wa j 0) (.inr (9, [.ref (wa j 1), .int (wz j 1), .int (wz j 2), .int (wz j 3), .int e, .int (wz j 5)])))) H := hP
      have hD : va_D A ((x, .inr (10, [.ref t, .ref d, .ref v, .ref th, .ref z, .ref g, .ref u, .ref w, .ref k, .ref h])) :: (v, .inr (8, [.ref t, .ref vw, .ref vj, _, _])) :: (vw, .inl (cW, 40, .inr (.inr (.inr (.inr _))))) :: (dySet dy (wa j 0) (.inr (9, [.ref (wa j 1), .int (wz j 1), .int (wz j 2), .int (wz j 3), .int e, .int (wz j 5)])))) := hD
      refine lv_iload hx hb dX10_plural_51 (lv_at hl 0 rfl) ?_
      exact mu_iret X hP hS (rfl) (rfl) dX10_plural_53
    · exact absurd c_34 hk2
  · refine lv_aload_n hx hb dX10_plural_18 rfl (lv_at hl 1 rfl) ?_
    refine va_get (D := D) (ci := 10) (C := RX10) (T := TX10) (N := 10) hx hb hts in_X10 hown hK hP 0 rfl rfl 2 (by decide) fl_39 (fun _ h9 => h9) rfl dX10_plural_19 ?_
    refine lv_iload_n hx hb dX10_plural_22 rfl (lv_at hl 3 rfl) ?_
    refine ro_V (n := 1) X hK (c_X8_known) gX10_plural_X8_known rfl (by decide +kernel) ⟨rfl, rfl⟩ ⟨Nat.le_of_ble_eq_true rfl, Nat.le_of_ble_eq_true rfl⟩ (hP.sub [1, 2] rfl) (va_recv hK hP (ci := 8) (q0 := 1) rfl rfl) rfl hl.1 rfl (Nat.le_of_ble_eq_true rfl) dX10_plural_23 ⟨Nat.zero_le _, Nat.zero_le _⟩ ?_
    refine lv_splitq (fun e_23 => ?_) (fun q_23 e_23 => ?_)
    · rcases hok with hok | hok; exact absurd hok c_15; rw [← Option.isSome_map (f := fun j => wa j 0), ← kn_ix hnw hwf, e_23] at hok; exact absurd hok (by decide)
    · refine lv_ifnonnull (tgt := 32) hx hb dX10_plural_26 (by decide) ?_
      refine lv_iload_n hx hb dX10_plural_32 rfl (lv_at hl 2 rfl) ?_
      refine lv_iload_n hx hb dX10_plural_33 rfl (lv_at hl 3 rfl) ?_
      refine lv_icmp_ne (tgt := 40) hx hb dX10_plural_34 (by decide) (fun c_34 => ?_) (fun c_34 => ?_)
      · refine lv_aload_n hx hb dX10_plural_40 rfl (lv_at hl 0 rfl) ?_
        refine va_get (D := D) (ci := 9) (C := RX9) (T := TX9) (N := 6) hx hb hts in_X9 hown hK hw 0 rfl rfl 4 (by decide) fl_150 (fun _ h9 => h9) rfl dX10_plural_41 ?_
        refine lv_istore (lv' := [(4, _), (3, _), (0, _), (1, _), (2, _)]) hx hb dX10_plural_44 hl (by decide) rfl (fun ls hl => ?_)
        refine lv_aload_n hx hb dX10_plural_46 rfl (lv_at hl 1 rfl) ?_
        refine lv_iload_n hx hb dX10_plural_47 rfl (lv_at hl 4 rfl) ?_
        refine put_dy (D := D) (ci := 9) (fs := [.ref (wa j 1), .int (wz j 1), .int (wz j 2), .int (wz j 3), .int (wz j 4), .int (wz j 5)]) (ty := .int) (C := RX9) (T := TX9) (N := 6) [_, _, _] hx hb hts in_X9 tyX9 tyX9_ok nmX9 hown hK hP hD hS ((hdw j hj).2 _ (by simp [wCells])) rfl 4 (by decide) fl_150 (fun _ h9 => h9) rfl (by decide +kernel) rfl rfl (Nat.le_of_ble_eq_true rfl) dX10_plural_48 (fun H locs hP hD hS => ?_)
        have hP : va_P D vwCl ((x, .inr (10, [.ref t, .ref d, .ref v, .ref th, .ref z, .ref g, .ref u, .ref w, .ref k, .ref h])) :: (v, .inr (8, [.ref t, .ref vw, .ref vj, _, _])) :: (vw, .inl (cW, 40, .inr (.inr (.inr (.inr _))))) :: (dySet dy (wa j 0) (.inr (9, [.ref (wa j 1), .int (wz j 1), .int (wz j 2), .int (wz j 3), .int e, .int (wz j 5)])))) H := hP
        have hD : va_D A ((x, .inr (10, [.ref t, .ref d, .ref v, .ref th, .ref z, .ref g, .ref u, .ref w, .ref k, .ref h])) :: (v, .inr (8, [.ref t, .ref vw, .ref vj, _, _])) :: (vw, .inl (cW, 40, .inr (.inr (.inr (.inr _))))) :: (dySet dy (wa j 0) (.inr (9, [.ref (wa j 1), .int (wz j 1), .int (wz j 2), .int (wz j 3), .int e, .int (wz j 5)])))) := hD
        refine lv_iload hx hb dX10_plural_51 (lv_at hl 0 rfl) ?_
        exact mu_iret X hP hS (rfl) (rfl) dX10_plural_53
      · exact absurd c_34 hk2
