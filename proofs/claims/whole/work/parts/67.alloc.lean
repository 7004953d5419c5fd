/-! what makes cells -/
section ASTQ
variable {p : Program} {l : Launch} {e : Env} {R : Room} {s : State} {m : MethodId} {args : Array Value} {below : List Frame} {meth : Method} {c : Code} {H : Heap} {locs : List Loc} {cells slots : Nat} {Q : State → Prop}
variable {cc : ByteArray} {pc : Nat} {ls : Array Slot} {rest : List Value} {D : va_G} {cl : List vw_C} {A : Nat → Prop} {a : Nat} {tys : List (ClassId × FieldType)} {ws : va_W} {H0 : Heap}
theorem ast_q (hexec : p.tables.exec = Jvm.exec) (hb : c.code = cc) (hK : va_K D cl tys s) (hP : va_P D cl ws H) (hD : va_D A ws) (hS : va_S A H0 H locs) (q0 t0 qk ci : Nat) {cA : ClassId} {r : vw_C} {n v : Nat} {vs : List Value} {f : Nat → Option Nat} (ha : ws[q0]? = some (a, .inl (cA, n, .inr (.inr (.inr (.inr f)))))) (ht : tys[t0]? = some (cA, .object r.1)) (hv : ws[qk]? = some (v, .inr (ci, vs))) (hc : cl[ci]? = some r) {k : Nat} (hk : k < n) (hn : n < 2 ^ 31) (hdg : decode cc pc = .ok (.aastore, 1))
    (kk : ∀ (H1 : Heap) (locs1 : List Loc), va_P D cl (ws.set q0 (a, .inl (cA, n, .inr (.inr (.inr (.inr (va_up f k (some v)))))))) H1 → va_D A (ws.set q0 (a, .inl (cA, n, .inr (.inr (.inr (.inr (va_up f k (some v)))))))) → va_S A H0 H1 locs1 → W p l e R s m args below meth c H1 locs1 cells slots Q (F0 m (pc + 1) ls rest)) : W p l e R s m args below meth c H locs cells slots Q (F0 m pc ls (.ref v :: .int (nI k) :: .ref a :: rest)) := by
  refine va_astq hexec hb hK hP hD hS q0 t0 qk ci ha ht hv hc (vp_in_nI hk hn) hdg ?_
  rw [nI_clamp (show k < 2 ^ 31 by omega)]
  exact kk
end ASTQ
theorem mx_nI {N : Nat} (h : N < 2 ^ 31) : (if (0 : Int32) < nI N then nI N else 0) = nI N := by
  by_cases q : (0 : Int32) < nI N
  · rw [if_pos q]
  · rw [if_neg q]
    have := ltN (a := 0) (b := N) q
    rw [show N = 0 by omega]; rfl

set_option maxHeartbeats 1000000 in
set_option maxRecDepth 100000 in
theorem c_X4_init {l : Launch} {D : va_G} {cI cJ cW : ClassId} {sz : Nat} {h N M : Nat} (hN : N ≤ M) (hM : M ≤ 100) : NU l yX4_init wsX4_init { frames := 1, cells := 1, slots := M, locals := 21 } D (ty3 cI cJ cW) [.ref h, .int (nI N)] [(h, .inr (4, [.null, .int 0]))] sz (fun (_ : Nat) => none) (fun (un : Nat) => [(h, .inr (4, [.ref un, .int 0]))] ++ [(un, .inl (cI, N, .inl (fun _ => 0)))]) 1 M := by
  refine nu_of (cc := cX4_init) (maxL := 2) (ret := none) (by decide) rfl (Nat.le_of_ble_eq_true rfl) ?_
  intro pr en ss mi below meth cd X hK hE hin A hA hP hD hS ls hl
  obtain ⟨hx, hb, hml, hown, hts, hr, hlocks⟩ := id X
  have fl_15 := hts (.fieldLink RX4 15 "WordTables$Row" "bytes" "[I") (by decide +kernel)
  have in_X4 : ∀ w ∈ wsX40, w ∈ wsX4_init := by decide +kernel
  have hl : lv_has ls 2 [(0, .ref h), (1, .int (nI N))] := hl
  refine lv_aload_n hx hb dX4_init_0 rfl (lv_at hl 0 rfl) ?_
  refine W.objInit hx hb hown (hts (.methodLink RX4 3 objectInit) (by decide +kernel)) (hts (.instanceMethod objectInit) (by decide +kernel)) (hts (.code objectInit ⟨#[0xb1]⟩ 1 none) (by decide +kernel)) rfl (by rw [hml]; exact hl.1) rfl dX4_init_1 (Nat.le_of_ble_eq_true rfl) (Nat.le_of_ble_eq_true rfl) ?_
  refine W.eq (g2 := F0 mi 4 ls []) rfl ?_
  refine lv_aload_n hx hb dX4_init_4 rfl (lv_at hl 0 rfl) ?_
  refine lv_iconst (v := 0) hx hb dX4_init_5 (by decide) ?_
  refine lv_iload_n hx hb dX4_init_6 rfl (lv_at hl 1 rfl) ?_
  refine va_mmax hx hb (hml.trans hl.1.symm) hown (hts (.methodLink RX4 9 Lib.Math.max.name) (by decide +kernel)) (hts (.static Lib.Math.max.name) (by decide +kernel)) (hts (.initialized "java/lang/Math") (by decide +kernel)) (hts (.code Lib.Math.max.name Lib.Math.max.code 2 (some .int)) (by decide +kernel)) (Nat.le_of_ble_eq_true rfl) (Nat.le_of_ble_eq_true rfl) (by show 0 ≤ 1; omega) (by show 0 ≤ M; omega) dX4_init_7 ?_
  refine topi_eq (mx_nI (by omega)) ?_
  refine newa_f (N' := N) hx hb (hts (.arrayClass .int) (by decide +kernel)) hK hP hD hS hA rfl (by omega) (by show 0 + 1 ≤ 1; omega) (by show 0 + N ≤ M; omega) dX4_init_10 (fun q_10 H hP hD hS => ?_)
  have hP : va_P D vwCl [(q_10, .inl (cI, N, .inl _)), (h, .inr (4, [_, _]))] H := hP
  have hD : va_D A [(q_10, .inl (cI, N, .inl _)), (h, .inr (4, [_, _]))] := hD
  refine va_putF (D := D) (ci := 4) (ty := .array .int) (C := RX4) (T := TX4) (N := 2) hx hb hts in_X4 tyX4 tyX4_ok nmX4 hown hK hP hD hS 1 rfl rfl 0 (by decide) fl_15 (fun _ h9 => h9) rfl hin rfl (by decide +kernel) rfl rfl (Nat.le_of_ble_eq_true rfl) dX4_init_12 (fun H locs hP hD hS => ?_)
  have hP : va_P D vwCl [(q_10, .inl (cI, N, .inl _)), (h, .inr (4, [.ref q_10, _]))] H := hP
  have hD : va_D A [(q_10, .inl (cI, N, .inl _)), (h, .inr (4, [.ref q_10, _]))] := hD
  have hP := hP.sub (ws' := [(h, .inr (4, [.ref q_10, _])), (q_10, .inl (cI, N, .inl _))]) [1, 0] rfl
  have hD := hD.sub (ws' := [(h, .inr (4, [.ref q_10, _])), (q_10, .inl (cI, N, .inl _))]) [1, 0] (by decide) rfl
  exact nu_vret q_10 X hP hD hS (rfl) (rfl) ⟨by show 1 ≤ 1; omega, by show 0 + N ≤ M; omega⟩ dX4_init_15

set_option maxHeartbeats 1000000 in
set_option maxRecDepth 100000 in
theorem c_X9_init {l : Launch} {D : va_G} {cI cJ cW : ClassId} {sz : Nat} {h d db dn : Nat} {df : Nat → Int32} {lg : Int32} (hdn : dn ≤ 20) : NU l yX9_init wsX9_init { frames := 2, cells := 2, slots := 22, locals := 43 } D (ty3 cI cJ cW) [.ref h, .ref d, .int lg] [(h, .inr (9, [.null, .int 0, .int 0, .int 0, .int 0, .int 0])), (d, .inr (4, [.ref db, .int (nI dn)])), (db, .inl (cI, 20, .inl df))] sz (fun (_ : Nat × Nat) => none) (fun (un : Nat × Nat) => [(h, .inr (9, [.ref un.1, .int lg, .int 0, .int 0, .int (-1), .int 0])), (d, .inr (4, [.ref db, .int (nI dn)])), (db, .inl (cI, 20, .inl df))] ++ [(un.1, .inr (4, [.ref un.2, .int (nI dn)])), (un.2, .inl (cI, dn, .inl (cpF (fun _ => 0) df dn)))]) 2 22 := by
  refine nu_of (cc := cX9_init) (maxL := 3) (ret := none) (by decide) rfl (Nat.le_of_ble_eq_true rfl) ?_
  intro pr en ss mi below meth cd X hK hE hin A hA hP hD hS ls hl
  obtain ⟨hx, hb, hml, hown, hts, hr, hlocks⟩ := id X
  have fl_11 := hts (.fieldLink RX9 11 "WordTables$Row" "count" "I") (by decide +kernel)
  have fl_18 := hts (.fieldLink RX9 18 "WordTables$Word" "spelling" "LWordTables$Row;") (by decide +kernel)
  have fl_28 := hts (.fieldLink RX9 28 "WordTables$Word" "language" "I") (by decide +kernel)
  have fl_31 := hts (.fieldLink RX9 31 "WordTables$Word" "pluralOf" "I") (by decide +kernel)
  have in_X4 : ∀ w ∈ wsX40, w ∈ wsX9_init := by decide +kernel
  have in_X9 : ∀ w ∈ wsX90, w ∈ wsX9_init := by decide +kernel
  have hl : lv_has ls 3 [(0, .ref h), (1, .ref d), (2, .int lg)] := hl
  refine lv_aload_n hx hb dX9_init_0 rfl (lv_at hl 0 rfl) ?_
  refine W.objInit hx hb hown (hts (.methodLink RX9 3 objectInit) (by decide +kernel)) (hts (.instanceMethod objectInit) (by decide +kernel)) (hts (.code objectInit ⟨#[0xb1]⟩ 1 none) (by decide +kernel)) rfl (by rw [hml]; exact hl.1) rfl dX9_init_1 (Nat.le_of_ble_eq_true rfl) (Nat.le_of_ble_eq_true rfl) ?_
  refine W.eq (g2 := F0 mi 4 ls []) rfl ?_
  refine lv_aload_n hx hb dX9_init_4 rfl (lv_at hl 0 rfl) ?_
  refine new_f (ci := 4) (fs := [.null, .int 0]) (C := RX4) (T := TX4) (N := 2) hx hb hts in_X4 tyX4 tyX4_ok hown (hts (.classLink RX9 9 RX4) (by decide +kernel)) (hts (.instantiable RX4 2) (by decide +kernel)) (hts (.initialized RX4) (by decide +kernel)) hK hP hD hS hA rfl (fun j hj => by rcases (show j = 0 ∨ j = 1 by omega) with rfl | rfl <;> rfl) (by show 0 + 1 ≤ 2; omega) (by show 0 + 2 ≤ 22; omega) dX9_init_5 (fun q_5 H hP hD hS => ?_)
  have hP : va_P D vwCl [(q_5, .inr (4, [_, _])), (h, .inr (9, [_, _, _, _, _, _])), (d, .inr (4, [.ref db, _])), (db, .inl (cI, 20, .inl _))] H := hP
  have hD : va_D A [(q_5, .inr (4, [_, _])), (h, .inr (9, [_, _, _, _, _, _])), (d, .inr (4, [.ref db, _])), (db, .inl (cI, 20, .inl _))] := hD
  refine lv_dup hx hb dX9_init_8 rfl ?_
  refine lv_aload_n hx hb dX9_init_9 rfl (lv_at hl 1 rfl) ?_
  refine va_get (D := D) (ci := 4) (C := RX4) (T := TX4) (N := 2) hx hb hts in_X4 hown hK hP 2 rfl rfl 1 (by decide) fl_11 (fun _ h9 => h9) rfl dX9_init_10 ?_
  refine nu_I (n := 1) (ms := 20) X hK hE (c_X4_init (M := 20) hdn (by decide)) gX9_init_X4_init rfl (hts (.initialized RX4) (by decide +kernel)) (hts (.methodLink RX9 15 yX4_init) (by decide +kernel)) (hts (.instanceMethod yX4_init) (by decide +kernel)) rfl (by decide +kernel) ⟨rfl, rfl⟩ ⟨Nat.le_of_ble_eq_true rfl, Nat.le_of_ble_eq_true rfl⟩ [0] rfl rfl (fun _ => rfl) (fun _ => rfl) (fun _ => rfl) hA hP hD hS rfl hl.1 rfl (Nat.le_of_ble_eq_true rfl) dX9_init_13 ⟨by show 1 + 1 ≤ 2; omega, by show 0 + 2 + 20 ≤ 22; omega⟩ (fun un H locs hP hD hS => ?_)
  obtain ⟨qb, e_u13⟩ : ∃ z, z = un := ⟨_, rfl⟩
  subst e_u13
  have hP : va_P D vwCl [(qb, .inl (cI, dn, .inl _)), (q_5, .inr (4, [.ref qb, _])), (h, .inr (9, [_, _, _, _, _, _])), (d, .inr (4, [.ref db, _])), (db, .inl (cI, 20, .inl _))] H := hP
  have hD : va_D A [(qb, .inl (cI, dn, .inl _)), (q_5, .inr (4, [.ref qb, _])), (h, .inr (9, [_, _, _, _, _, _])), (d, .inr (4, [.ref db, _])), (db, .inl (cI, 20, .inl _))] := hD
  refine va_putF (D := D) (ci := 9) (ty := .object "WordTables$Row") (C := RX9) (T := TX9) (N := 6) hx hb hts in_X9 tyX9 tyX9_ok nmX9 hown hK hP hD hS 2 rfl rfl 0 (by decide) fl_18 (fun _ h9 => h9) rfl hin rfl (by decide +kernel) rfl rfl (Nat.le_of_ble_eq_true rfl) dX9_init_16 (fun H locs hP hD hS => ?_)
  have hP : va_P D vwCl [(qb, .inl (cI, dn, .inl _)), (q_5, .inr (4, [.ref qb, _])), (h, .inr (9, [.ref q_5, _, _, _, _, _])), (d, .inr (4, [.ref db, _])), (db, .inl (cI, 20, .inl _))] H := hP
  have hD : va_D A [(qb, .inl (cI, dn, .inl _)), (q_5, .inr (4, [.ref qb, _])), (h, .inr (9, [.ref q_5, _, _, _, _, _])), (d, .inr (4, [.ref db, _])), (db, .inl (cI, 20, .inl _))] := hD
  refine lv_aload_n hx hb dX9_init_19 rfl (lv_at hl 0 rfl) ?_
  refine va_get (D := D) (ci := 9) (C := RX9) (T := TX9) (N := 6) hx hb hts in_X9 hown hK hP 2 rfl rfl 0 (by decide) fl_18 (fun _ h9 => h9) rfl dX9_init_20 ?_
  refine lv_aload_n hx hb dX9_init_23 rfl (lv_at hl 1 rfl) ?_
  refine mu_V (n := 1) X hK (c_X4_copyFrom (by omega) (by decide) (Nat.le_refl _) hdn) gX9_init_X4_copyFrom rfl (by decide +kernel) ⟨rfl, rfl⟩ ⟨Nat.le_of_ble_eq_true rfl, Nat.le_of_ble_eq_true rfl⟩ [1, 0, 3, 4] rfl rfl rfl rfl hA hP hD hS (va_recv hK hP (ci := 4) (q0 := 1) rfl rfl) rfl hl.1 rfl (Nat.le_of_ble_eq_true rfl) dX9_init_24 ⟨by show 2 ≤ 2; omega, by show 0 + 2 + 20 ≤ 22; omega⟩ (fun H locs hP hD hS => ?_)
  have hP : va_P D vwCl [(qb, .inl (cI, dn, .inl _)), (q_5, .inr (4, [.ref qb, _])), (h, .inr (9, [.ref q_5, _, _, _, _, _])), (d, .inr (4, [.ref db, _])), (db, .inl (cI, 20, .inl _))] H := hP
  have hD : va_D A [(qb, .inl (cI, dn, .inl _)), (q_5, .inr (4, [.ref qb, _])), (h, .inr (9, [.ref q_5, _, _, _, _, _])), (d, .inr (4, [.ref db, _])), (db, .inl (cI, 20, .inl _))] := hD
  refine lv_aload_n hx hb dX9_init_27 rfl (lv_at hl 0 rfl) ?_
  refine lv_iload_n hx hb dX9_init_28 rfl (lv_at hl 2 rfl) ?_
  refine va_putF (D := D) (ci := 9) (ty := .int) (C := RX9) (T := TX9) (N := 6) hx hb hts in_X9 tyX9 tyX9_ok nmX9 hown hK hP hD hS 2 rfl rfl 1 (by decide) fl_28 (fun _ h9 => h9) rfl hin rfl (by decide +kernel) rfl rfl (Nat.le_of_ble_eq_true rfl) dX9_init_29 (fun H locs hP hD hS => ?_)
  have hP : va_P D vwCl [(qb, .inl (cI, dn, .inl _)), (q_5, .inr (4, [.ref qb, _])), (h, .inr (9, [.ref q_5, _, _, _, _, _])), (d, .inr (4, [.ref db, _])), (db, .inl (cI, 20, .inl _))] H := hP
  have hD : va_D A [(qb, .inl (cI, dn, .inl _)), (q_5, .inr (4, [.ref qb, _])), (h, .inr (9, [.ref q_5, _, _, _, _, _])), (d, .inr (4, [.ref db, _])), (db, .inl (cI, 20, .inl _))] := hD
  refine lv_aload_n hx hb dX9_init_32 rfl (lv_at hl 0 rfl) ?_
  refine lv_iconst (v := -1) hx hb dX9_init_33 (by decide) ?_
  refine va_put (D := D) (ci := 9) (ty := .int) (C := RX9) (T := TX9) (N := 6) hx hb hts in_X9 tyX9 tyX9_ok nmX9 hown hK hP hD hS 2 rfl rfl 4 (by decide) fl_31 (fun _ h9 => h9) rfl (by decide +kernel) rfl rfl (Nat.le_of_ble_eq_true rfl) dX9_init_34 (fun H locs hP hD hS => ?_)
  have hP : va_P D vwCl [(qb, .inl (cI, dn, .inl _)), (q_5, .inr (4, [.ref qb, _])), (h, .inr (9, [.ref q_5, _, _, _, _, _])), (d, .inr (4, [.ref db, _])), (db, .inl (cI, 20, .inl _))] H := hP
  have hD : va_D A [(qb, .inl (cI, dn, .inl _)), (q_5, .inr (4, [.ref qb, _])), (h, .inr (9, [.ref q_5, _, _, _, _, _])), (d, .inr (4, [.ref db, _])), (db, .inl (cI, 20, .inl _))] := hD
  have hP := hP.sub (ws' := [(h, .inr (9, [.ref q_5, _, _, _, _, _])), (d, .inr (4, [.ref db, _])), (db, .inl (cI, 20, .inl _)), (q_5, .inr (4, [.ref qb, _])), (qb, .inl (cI, dn, .inl _))]) [2, 3, 4, 1, 0] rfl
  have hD := hD.sub (ws' := [(h, .inr (9, [.ref q_5, _, _, _, _, _])), (d, .inr (4, [.ref db, _])), (db, .inl (cI, 20, .inl _)), (q_5, .inr (4, [.ref qb, _])), (qb, .inl (cI, dn, .inl _))]) [2, 3, 4, 1, 0] (by decide) rfl
  exact nu_vret (q_5, qb) X hP hD hS (rfl) (rfl) ⟨by show 2 ≤ 2; omega, by show 0 + 2 + 20 ≤ 22; omega⟩ dX9_init_37

set_option maxHeartbeats 1000000 in
set_option maxRecDepth 100000 in
theorem c_X2_init {l : Launch} {D : va_G} {cI cJ cW : ClassId} {sz : Nat} {h d db dn : Nat} {df : Nat → Int32} {x y : Int32} (hdn : dn ≤ 20) : NU l yX2_init wsX2_init { frames := 2, cells := 2, slots := 22, locals := 43 } D (ty3 cI cJ cW) [.ref h, .ref d, .int x, .int y] [(h, .inr (2, [.null, .int 0, .int 0])), (d, .inr (4, [.ref db, .int (nI dn)])), (db, .inl (cI, 20, .inl df))] sz (fun (_ : Nat × Nat) => none) (fun (un : Nat × Nat) => [(h, .inr (2, [.ref un.1, .int x, .int y])), (d, .inr (4, [.ref db, .int (nI dn)])), (db, .inl (cI, 20, .inl df))] ++ [(un.1, .inr (4, [.ref un.2, .int (nI dn)])), (un.2, .inl (cI, dn, .inl (cpF (fun _ => 0) df dn)))]) 2 22 := by
  refine nu_of (cc := cX2_init) (maxL := 4) (ret := none) (by decide) rfl (Nat.le_of_ble_eq_true rfl) ?_
  intro pr en ss mi below meth cd X hK hE hin A hA hP hD hS ls hl
  obtain ⟨hx, hb, hml, hown, hts, hr, hlocks⟩ := id X
  have fl_16 := hts (.fieldLink RX2 16 "WordTables$Join" "spelling" "LWordTables$Row;") (by decide +kernel)
  have fl_26 := hts (.fieldLink RX2 26 "WordTables$Join" "first" "I") (by decide +kernel)
  have fl_29 := hts (.fieldLink RX2 29 "WordTables$Join" "second" "I") (by decide +kernel)
  have fl_9 := hts (.fieldLink RX2 9 "WordTables$Row" "count" "I") (by decide +kernel)
  have in_X2 : ∀ w ∈ wsX20, w ∈ wsX2_init := by decide +kernel
  have in_X4 : ∀ w ∈ wsX40, w ∈ wsX2_init := by decide +kernel
  have hl : lv_has ls 4 [(0, .ref h), (1, .ref d), (2, .int x), (3, .int y)] := hl
  refine lv_aload_n hx hb dX2_init_0 rfl (lv_at hl 0 rfl) ?_
  refine W.objInit hx hb hown (hts (.methodLink RX2 1 objectInit) (by decide +kernel)) (hts (.instanceMethod objectInit) (by decide +kernel)) (hts (.code objectInit ⟨#[0xb1]⟩ 1 none) (by decide +kernel)) rfl (by rw [hml]; exact hl.1) rfl dX2_init_1 (Nat.le_of_ble_eq_true rfl) (Nat.le_of_ble_eq_true rfl) ?_
  refine W.eq (g2 := F0 mi 4 ls []) rfl ?_
  refine lv_aload_n hx hb dX2_init_4 rfl (lv_at hl 0 rfl) ?_
  refine new_f (ci := 4) (fs := [.null, .int 0]) (C := RX4) (T := TX4) (N := 2) hx hb hts in_X4 tyX4 tyX4_ok hown (hts (.classLink RX2 7 RX4) (by decide +kernel)) (hts (.instantiable RX4 2) (by decide +kernel)) (hts (.initialized RX4) (by decide +kernel)) hK hP hD hS hA rfl (fun j hj => by rcases (show j = 0 ∨ j = 1 by omega) with rfl | rfl <;> rfl) (by show 0 + 1 ≤ 2; omega) (by show 0 + 2 ≤ 22; omega) dX2_init_5 (fun q_5 H hP hD hS => ?_)
  have hP : va_P D vwCl [(q_5, .inr (4, [_, _])), (h, .inr (2, [_, _, _])), (d, .inr (4, [.ref db, _])), (db, .inl (cI, 20, .inl _))] H := hP
  have hD : va_D A [(q_5, .inr (4, [_, _])), (h, .inr (2, [_, _, _])), (d, .inr (4, [.ref db, _])), (db, .inl (cI, 20, .inl _))] := hD
  refine lv_dup hx hb dX2_init_8 rfl ?_
  refine lv_aload_n hx hb dX2_init_9 rfl (lv_at hl 1 rfl) ?_
  refine va_get (D := D) (ci := 4) (C := RX4) (T := TX4) (N := 2) hx hb hts in_X4 hown hK hP 2 rfl rfl 1 (by decide) fl_9 (fun _ h9 => h9) rfl dX2_init_10 ?_
  refine nu_I (n := 1) (ms := 20) X hK hE (c_X4_init (M := 20) hdn (by decide)) gX2_init_X4_init rfl (hts (.initialized RX4) (by decide +kernel)) (hts (.methodLink RX2 13 yX4_init) (by decide +kernel)) (hts (.instanceMethod yX4_init) (by decide +kernel)) rfl (by decide +kernel) ⟨rfl, rfl⟩ ⟨Nat.le_of_ble_eq_true rfl, Nat.le_of_ble_eq_true rfl⟩ [0] rfl rfl (fun _ => rfl) (fun _ => rfl) (fun _ => rfl) hA hP hD hS rfl hl.1 rfl (Nat.le_of_ble_eq_true rfl) dX2_init_13 ⟨by show 1 + 1 ≤ 2; omega, by show 0 + 2 + 20 ≤ 22; omega⟩ (fun un H locs hP hD hS => ?_)
  obtain ⟨qb, e_u13⟩ : ∃ z, z = un := ⟨_, rfl⟩
  subst e_u13
  have hP : va_P D vwCl [(qb, .inl (cI, dn, .inl _)), (q_5, .inr (4, [.ref qb, _])), (h, .inr (2, [_, _, _])), (d, .inr (4, [.ref db, _])), (db, .inl (cI, 20, .inl _))] H := hP
  have hD : va_D A [(qb, .inl (cI, dn, .inl _)), (q_5, .inr (4, [.ref qb, _])), (h, .inr (2, [_, _, _])), (d, .inr (4, [.ref db, _])), (db, .inl (cI, 20, .inl _))] := hD
  refine va_putF (D := D) (ci := 2) (ty := .object "WordTables$Row") (C := RX2) (T := TX2) (N := 3) hx hb hts in_X2 tyX2 tyX2_ok nmX2 hown hK hP hD hS 2 rfl rfl 0 (by decide) fl_16 (fun _ h9 => h9) rfl hin rfl (by decide +kernel) rfl rfl (Nat.le_of_ble_eq_true rfl) dX2_init_16 (fun H locs hP hD hS => ?_)
  have hP : va_P D vwCl [(qb, .inl (cI, dn, .inl _)), (q_5, .inr (4, [.ref qb, _])), (h, .inr (2, [.ref q_5, _, _])), (d, .inr (4, [.ref db, _])), (db, .inl (cI, 20, .inl _))] H := hP
  have hD : va_D A [(qb, .inl (cI, dn, .inl _)), (q_5, .inr (4, [.ref qb, _])), (h, .inr (2, [.ref q_5, _, _])), (d, .inr (4, [.ref db, _])), (db, .inl (cI, 20, .inl _))] := hD
  refine lv_aload_n hx hb dX2_init_19 rfl (lv_at hl 0 rfl) ?_
  refine va_get (D := D) (ci := 2) (C := RX2) (T := TX2) (N := 3) hx hb hts in_X2 hown hK hP 2 rfl rfl 0 (by decide) fl_16 (fun _ h9 => h9) rfl dX2_init_20 ?_
  refine lv_aload_n hx hb dX2_init_23 rfl (lv_at hl 1 rfl) ?_
  refine mu_V (n := 1) X hK (c_X4_copyFrom (by omega) (by decide) (Nat.le_refl _) hdn) gX2_init_X4_copyFrom rfl (by decide +kernel) ⟨rfl, rfl⟩ ⟨Nat.le_of_ble_eq_true rfl, Nat.le_of_ble_eq_true rfl⟩ [1, 0, 3, 4] rfl rfl rfl rfl hA hP hD hS (va_recv hK hP (ci := 4) (q0 := 1) rfl rfl) rfl hl.1 rfl (Nat.le_of_ble_eq_true rfl) dX2_init_24 ⟨by show 2 ≤ 2; omega, by show 0 + 2 + 20 ≤ 22; omega⟩ (fun H locs hP hD hS => ?_)
  have hP : va_P D vwCl [(qb, .inl (cI, dn, .inl _)), (q_5, .inr (4, [.ref qb, _])), (h, .inr (2, [.ref q_5, _, _])), (d, .inr (4, [.ref db, _])), (db, .inl (cI, 20, .inl _))] H := hP
  have hD : va_D A [(qb, .inl (cI, dn, .inl _)), (q_5, .inr (4, [.ref qb, _])), (h, .inr (2, [.ref q_5, _, _])), (d, .inr (4, [.ref db, _])), (db, .inl (cI, 20, .inl _))] := hD
  refine lv_aload_n hx hb dX2_init_27 rfl (lv_at hl 0 rfl) ?_
  refine lv_iload_n hx hb dX2_init_28 rfl (lv_at hl 2 rfl) ?_
  refine va_putF (D := D) (ci := 2) (ty := .int) (C := RX2) (T := TX2) (N := 3) hx hb hts in_X2 tyX2 tyX2_ok nmX2 hown hK hP hD hS 2 rfl rfl 1 (by decide) fl_26 (fun _ h9 => h9) rfl hin rfl (by decide +kernel) rfl rfl (Nat.le_of_ble_eq_true rfl) dX2_init_29 (fun H locs hP hD hS => ?_)
  have hP : va_P D vwCl [(qb, .inl (cI, dn, .inl _)), (q_5, .inr (4, [.ref qb, _])), (h, .inr (2, [.ref q_5, _, _])), (d, .inr (4, [.ref db, _])), (db, .inl (cI, 20, .inl _))] H := hP
  have hD : va_D A [(qb, .inl (cI, dn, .inl _)), (q_5, .inr (4, [.ref qb, _])), (h, .inr (2, [.ref q_5, _, _])), (d, .inr (4, [.ref db, _])), (db, .inl (cI, 20, .inl _))] := hD
  refine lv_aload_n hx hb dX2_init_32 rfl (lv_at hl 0 rfl) ?_
  refine lv_iload_n hx hb dX2_init_33 rfl (lv_at hl 3 rfl) ?_
  refine va_putF (D := D) (ci := 2) (ty := .int) (C := RX2) (T := TX2) (N := 3) hx hb hts in_X2 tyX2 tyX2_ok nmX2 hown hK hP hD hS 2 rfl rfl 2 (by decide) fl_29 (fun _ h9 => h9) rfl hin rfl (by decide +kernel) rfl rfl (Nat.le_of_ble_eq_true rfl) dX2_init_34 (fun H locs hP hD hS => ?_)
  have hP : va_P D vwCl [(qb, .inl (cI, dn, .inl _)), (q_5, .inr (4, [.ref qb, _])), (h, .inr (2, [.ref q_5, _, _])), (d, .inr (4, [.ref db, _])), (db, .inl (cI, 20, .inl _))] H := hP
  have hD : va_D A [(qb, .inl (cI, dn, .inl _)), (q_5, .inr (4, [.ref qb, _])), (h, .inr (2, [.ref q_5, _, _])), (d, .inr (4, [.ref db, _])), (db, .inl (cI, 20, .inl _))] := hD
  have hP := hP.sub (ws' := [(h, .inr (2, [.ref q_5, _, _])), (d, .inr (4, [.ref db, _])), (db, .inl (cI, 20, .inl _)), (q_5, .inr (4, [.ref qb, _])), (qb, .inl (cI, dn, .inl _))]) [2, 3, 4, 1, 0] rfl
  have hD := hD.sub (ws' := [(h, .inr (2, [.ref q_5, _, _])), (d, .inr (4, [.ref db, _])), (db, .inl (cI, 20, .inl _)), (q_5, .inr (4, [.ref qb, _])), (qb, .inl (cI, dn, .inl _))]) [2, 3, 4, 1, 0] (by decide) rfl
  exact nu_vret (q_5, qb) X hP hD hS (rfl) (rfl) ⟨by show 2 ≤ 2; omega, by show 0 + 2 + 20 ≤ 22; omega⟩ dX2_init_37

set_option maxHeartbeats 1000000 in
set_option maxRecDepth 100000 in
theorem c_X8_addWord_n {l : Launch} {D : va_G} {cI cJ cW : ClassId} {t v vw vj nw nj d db dn : Nat} {wf : Nat → Option Nat} {df : Nat → Int32} {lg : Int32} (hnw : nw = 40) : RO l yX8_addWord wsX8_addWord { frames := 3, cells := 0, slots := 0, locals := 65 } D (ty3 cI cJ cW) [.ref v, .ref d, .int lg] [(v, .inr (8, [.ref t, .ref vw, .ref vj, .int (nI nw), .int (nI nj)])), (vw, .inl (cW, 40, .inr (.inr (.inr (.inr wf))))), (d, .inr (4, [.ref db, .int (nI dn)])), (db, .inl (cI, 20, .inl df))] (.int (-1)) := by
  refine ro_of (cc := cX8_addWord) (maxL := 3) (ret := (some .int)) (by decide) rfl (Nat.le_of_ble_eq_true rfl) ?_
  intro pr en ss mi below meth cd X hP hK ls hl
  obtain ⟨hx, hb, hml, hown, hts, hr, hlocks⟩ := id X
  have fl_17 := hts (.fieldLink RX8 17 "WordTables$Vocabulary" "words" "[LWordTables$Word;") (by decide +kernel)
  have fl_27 := hts (.fieldLink RX8 27 "WordTables$Vocabulary" "wordCount" "I") (by decide +kernel)
  have in_X8 : ∀ w ∈ wsX80, w ∈ wsX8_addWord := by decide +kernel
  have hl : lv_has ls 3 [(0, .ref v), (1, .ref d), (2, .int lg)] := hl
  refine lv_aload_n hx hb dX8_addWord_0 rfl (lv_at hl 0 rfl) ?_
  refine va_get (D := D) (ci := 8) (C := RX8) (T := TX8) (N := 5) hx hb hts in_X8 hown hK hP 0 rfl rfl 3 (by decide) fl_27 (fun _ h9 => h9) rfl dX8_addWord_1 ?_
  refine lv_if_lt (tgt := 19) hx hb dX8_addWord_4 (by decide) (fun c_4 => ?_) (fun c_4 => ?_)
  · refine lv_iconst (v := -1) hx hb dX8_addWord_19 (by decide) ?_
    exact ro_iret X (rfl) dX8_addWord_20
  · refine lv_aload_n hx hb dX8_addWord_7 rfl (lv_at hl 0 rfl) ?_
    refine va_get (D := D) (ci := 8) (C := RX8) (T := TX8) (N := 5) hx hb hts in_X8 hown hK hP 0 rfl rfl 3 (by decide) fl_27 (fun _ h9 => h9) rfl dX8_addWord_8 ?_
    refine lv_aload_n hx hb dX8_addWord_11 rfl (lv_at hl 0 rfl) ?_
    refine va_get (D := D) (ci := 8) (C := RX8) (T := TX8) (N := 5) hx hb hts in_X8 hown hK hP 0 rfl rfl 1 (by decide) fl_17 (fun _ h9 => h9) rfl dX8_addWord_12 ?_
    refine va_alen (v := nI 40) hx hb hK hP 1 2 rfl rfl rfl dX8_addWord_15 ?_
    refine lv_icmp_lt (tgt := 21) hx hb dX8_addWord_16 (by decide) (fun c_16 => ?_) (fun c_16 => ?_)
    · exact absurd (ltL (a := nw) (b := 40) c_16) (by omega)
    · refine lv_iconst (v := -1) hx hb dX8_addWord_19 (by decide) ?_
      exact ro_iret X (rfl) dX8_addWord_20

set_option maxHeartbeats 1000000 in
set_option maxRecDepth 100000 in
theorem c_X8_addWord {l : Launch} {D : va_G} {cI cJ cW : ClassId} {sz : Nat} {t v vw vj nw nj d db dn : Nat} {wf : Nat → Option Nat} {df : Nat → Int32} {lg : Int32} (hnw : nw < 40) (hdn : dn ≤ 20) : NU l yX8_addWord wsX8_addWord { frames := 3, cells := 3, slots := 28, locals := 65 } D (ty3 cI cJ cW) [.ref v, .ref d, .int lg] [(v, .inr (8, [.ref t, .ref vw, .ref vj, .int (nI nw), .int (nI nj)])), (vw, .inl (cW, 40, .inr (.inr (.inr (.inr wf))))), (d, .inr (4, [.ref db, .int (nI dn)])), (db, .inl (cI, 20, .inl df))] sz (fun (_ : Nat × Nat × Nat) => (some (.int (nI nw)))) (fun (un : Nat × Nat × Nat) => [(v, .inr (8, [.ref t, .ref vw, .ref vj, .int (nI (nw + 1)), .int (nI nj)])), (vw, .inl (cW, 40, .inr (.inr (.inr (.inr (va_up wf nw (some un.1))))))), (d, .inr (4, [.ref db, .int (nI dn)])), (db, .inl (cI, 20, .inl df))] ++ [(un.1, .inr (9, [.ref un.2.1, .int lg, .int 0, .int 0, .int (-1), .int 0])), (un.2.1, .inr (4, [.ref un.2.2, .int (nI dn)])), (un.2.2, .inl (cI, dn, .inl (cpF (fun _ => 0) df dn)))]) 3 28 := by
  refine nu_of (cc := cX8_addWord) (maxL := 3) (ret := (some .int)) (by decide) rfl (Nat.le_of_ble_eq_true rfl) ?_
  intro pr en ss mi below meth cd X hK hE hin A hA hP hD hS ls hl
  obtain ⟨hx, hb, hml, hown, hts, hr, hlocks⟩ := id X
  have fl_17 := hts (.fieldLink RX8 17 "WordTables$Vocabulary" "words" "[LWordTables$Word;") (by decide +kernel)
  have fl_27 := hts (.fieldLink RX8 27 "WordTables$Vocabulary" "wordCount" "I") (by decide +kernel)
  have in_X8 : ∀ w ∈ wsX80, w ∈ wsX8_addWord := by decide +kernel
  have in_X9 : ∀ w ∈ wsX90, w ∈ wsX8_addWord := by decide +kernel
  have hl : lv_has ls 3 [(0, .ref v), (1, .ref d), (2, .int lg)] := hl
  refine lv_aload_n hx hb dX8_addWord_0 rfl (lv_at hl 0 rfl) ?_
  refine va_get (D := D) (ci := 8) (C := RX8) (T := TX8) (N := 5) hx hb hts in_X8 hown hK hP 0 rfl rfl 3 (by decide) fl_27 (fun _ h9 => h9) rfl dX8_addWord_1 ?_
  refine lv_if_lt (tgt := 19) hx hb dX8_addWord_4 (by decide) (fun c_4 => ?_) (fun c_4 => ?_)
  · exact absurd c_4 (nI_pos (by omega))
  · refine lv_aload_n hx hb dX8_addWord_7 rfl (lv_at hl 0 rfl) ?_
    refine va_get (D := D) (ci := 8) (C := RX8) (T := TX8) (N := 5) hx hb hts in_X8 hown hK hP 0 rfl rfl 3 (by decide) fl_27 (fun _ h9 => h9) rfl dX8_addWord_8 ?_
    refine lv_aload_n hx hb dX8_addWord_11 rfl (lv_at hl 0 rfl) ?_
    refine va_get (D := D) (ci := 8) (C := RX8) (T := TX8) (N := 5) hx hb hts in_X8 hown hK hP 0 rfl rfl 1 (by decide) fl_17 (fun _ h9 => h9) rfl dX8_addWord_12 ?_
    refine va_alen (v := nI 40) hx hb hK hP 1 2 rfl rfl rfl dX8_addWord_15 ?_
    refine lv_icmp_lt (tgt := 21) hx hb dX8_addWord_16 (by decide) (fun c_16 => ?_) (fun c_16 => ?_)
    · refine lv_aload_n hx hb dX8_addWord_21 rfl (lv_at hl 0 rfl) ?_
      refine va_get (D := D) (ci := 8) (C := RX8) (T := TX8) (N := 5) hx hb hts in_X8 hown hK hP 0 rfl rfl 1 (by decide) fl_17 (fun _ h9 => h9) rfl dX8_addWord_22 ?_
      refine lv_aload_n hx hb dX8_addWord_25 rfl (lv_at hl 0 rfl) ?_
      refine va_get (D := D) (ci := 8) (C := RX8) (T := TX8) (N := 5) hx hb hts in_X8 hown hK hP 0 rfl rfl 3 (by decide) fl_27 (fun _ h9 => h9) rfl dX8_addWord_26 ?_
      refine new_f (ci := 9) (fs := [.null, .int 0, .int 0, .int 0, .int 0, .int 0]) (C := RX9) (T := TX9) (N := 6) hx hb hts in_X9 tyX9 tyX9_ok hown (hts (.classLink RX8 15 RX9) (by decide +kernel)) (hts (.instantiable RX9 6) (by decide +kernel)) (hts (.initialized RX9) (by decide +kernel)) hK hP hD hS hA rfl (fun j hj => by rcases (show j = 0 ∨ j = 1 ∨ j = 2 ∨ j = 3 ∨ j = 4 ∨ j = 5 by omega) with rfl | rfl | rfl | rfl | rfl | rfl <;> rfl) (by show 0 + 1 ≤ 3; omega) (by show 0 + 6 ≤ 28; omega) dX8_addWord_29 (fun q_29 H hP hD hS => ?_)
      have hP : va_P D vwCl [(q_29, .inr (9, [_, _, _, _, _, _])), (v, .inr (8, [.ref t, .ref vw, .ref vj, _, _])), (vw, .inl (cW, 40, .inr (.inr (.inr (.inr _))))), (d, .inr (4, [.ref db, _])), (db, .inl (cI, 20, .inl _))] H := hP
      have hD : va_D A [(q_29, .inr (9, [_, _, _, _, _, _])), (v, .inr (8, [.ref t, .ref vw, .ref vj, _, _])), (vw, .inl (cW, 40, .inr (.inr (.inr (.inr _))))), (d, .inr (4, [.ref db, _])), (db, .inl (cI, 20, .inl _))] := hD
      refine lv_dup hx hb dX8_addWord_32 rfl ?_
      refine lv_aload_n hx hb dX8_addWord_33 rfl (lv_at hl 1 rfl) ?_
      refine lv_iload_n hx hb dX8_addWord_34 rfl (lv_at hl 2 rfl) ?_
      refine nu_I (n := 2) (ms := 22) X hK hE (c_X9_init hdn) gX8_addWord_X9_init rfl (hts (.initialized RX9) (by decide +kernel)) (hts (.methodLink RX8 52 yX9_init) (by decide +kernel)) (hts (.instanceMethod yX9_init) (by decide +kernel)) rfl (by decide +kernel) ⟨rfl, rfl⟩ ⟨Nat.le_of_ble_eq_true rfl, Nat.le_of_ble_eq_true rfl⟩ [0, 3, 4] rfl rfl (fun _ => rfl) (fun _ => rfl) (fun _ => rfl) hA hP hD hS rfl hl.1 rfl (Nat.le_of_ble_eq_true rfl) dX8_addWord_35 ⟨by show 1 + 2 ≤ 3; omega, by show 0 + 6 + 22 ≤ 28; omega⟩ (fun un H locs hP hD hS => ?_)
      obtain ⟨qr, qb⟩ := un
      have hP : va_P D vwCl [(qr, .inr (4, [.ref qb, _])), (qb, .inl (cI, dn, .inl _)), (q_29, .inr (9, [.ref qr, _, _, _, _, _])), (v, .inr (8, [.ref t, .ref vw, .ref vj, _, _])), (vw, .inl (cW, 40, .inr (.inr (.inr (.inr _))))), (d, .inr (4, [.ref db, _])), (db, .inl (cI, 20, .inl _))] H := hP
      have hD : va_D A [(qr, .inr (4, [.ref qb, _])), (qb, .inl (cI, dn, .inl _)), (q_29, .inr (9, [.ref qr, _, _, _, _, _])), (v, .inr (8, [.ref t, .ref vw, .ref vj, _, _])), (vw, .inl (cW, 40, .inr (.inr (.inr (.inr _))))), (d, .inr (4, [.ref db, _])), (db, .inl (cI, 20, .inl _))] := hD
      refine ast_q hx hb hK hP hD hS 4 2 2 9 rfl rfl rfl rfl hnw (by decide) dX8_addWord_38 (fun H locs hP hD hS => ?_)
      have hP : va_P D vwCl [(qr, .inr (4, [.ref qb, _])), (qb, .inl (cI, dn, .inl _)), (q_29, .inr (9, [.ref qr, _, _, _, _, _])), (v, .inr (8, [.ref t, .ref vw, .ref vj, _, _])), (vw, .inl (cW, 40, .inr (.inr (.inr (.inr _))))), (d, .inr (4, [.ref db, _])), (db, .inl (cI, 20, .inl _))] H := hP
      have hD : va_D A [(qr, .inr (4, [.ref qb, _])), (qb, .inl (cI, dn, .inl _)), (q_29, .inr (9, [.ref qr, _, _, _, _, _])), (v, .inr (8, [.ref t, .ref vw, .ref vj, _, _])), (vw, .inl (cW, 40, .inr (.inr (.inr (.inr _))))), (d, .inr (4, [.ref db, _])), (db, .inl (cI, 20, .inl _))] := hD
      refine lv_aload_n hx hb dX8_addWord_39 rfl (lv_at hl 0 rfl) ?_
      refine lv_dup hx hb dX8_addWord_40 rfl ?_
      refine va_get (D := D) (ci := 8) (C := RX8) (T := TX8) (N := 5) hx hb hts in_X8 hown hK hP 3 rfl rfl 3 (by decide) fl_27 (fun _ h9 => h9) rfl dX8_addWord_41 ?_
      refine lv_iconst (v := 1) hx hb dX8_addWord_44 (by decide) ?_
      refine lv_iadd hx hb dX8_addWord_45 ?_
      refine topi_eq (nI_1 nw) ?_
      refine va_put (D := D) (ci := 8) (ty := .int) (C := RX8) (T := TX8) (N := 5) hx hb hts in_X8 tyX8 tyX8_ok nmX8 hown hK hP hD hS 3 rfl rfl 3 (by decide) fl_27 (fun _ h9 => h9) rfl (by decide +kernel) rfl rfl (Nat.le_of_ble_eq_true rfl) dX8_addWord_46 (fun H locs hP hD hS => ?_)
      have hP : va_P D vwCl [(qr, .inr (4, [.ref qb, _])), (qb, .inl (cI, dn, .inl _)), (q_29, .inr (9, [.ref qr, _, _, _, _, _])), (v, .inr (8, [.ref t, .ref vw, .ref vj, _, _])), (vw, .inl (cW, 40, .inr (.inr (.inr (.inr _))))), (d, .inr (4, [.ref db, _])), (db, .inl (cI, 20, .inl _))] H := hP
      have hD : va_D A [(qr, .inr (4, [.ref qb, _])), (qb, .inl (cI, dn, .inl _)), (q_29, .inr (9, [.ref qr, _, _, _, _, _])), (v, .inr (8, [.ref t, .ref vw, .ref vj, _, _])), (vw, .inl (cW, 40, .inr (.inr (.inr (.inr _))))), (d, .inr (4, [.ref db, _])), (db, .inl (cI, 20, .inl _))] := hD
      refine lv_aload_n hx hb dX8_addWord_49 rfl (lv_at hl 0 rfl) ?_
      refine va_get (D := D) (ci := 8) (C := RX8) (T := TX8) (N := 5) hx hb hts in_X8 hown hK hP 3 rfl rfl 3 (by decide) fl_27 (fun _ h9 => h9) rfl dX8_addWord_50 ?_
      refine lv_iconst (v := 1) hx hb dX8_addWord_53 (by decide) ?_
      refine lv_isub hx hb dX8_addWord_54 ?_
      refine topi_eq (show nI (nw + 1) - 1 = nI nw from pk_sub (a := nw + 1) (b := 1) (by omega)) ?_
      have hP := hP.sub (ws' := [(v, .inr (8, [.ref t, .ref vw, .ref vj, _, _])), (vw, .inl (cW, 40, .inr (.inr (.inr (.inr _))))), (d, .inr (4, [.ref db, _])), (db, .inl (cI, 20, .inl _)), (q_29, .inr (9, [.ref qr, _, _, _, _, _])), (qr, .inr (4, [.ref qb, _])), (qb, .inl (cI, dn, .inl _))]) [3, 4, 5, 6, 2, 0, 1] rfl
      have hD := hD.sub (ws' := [(v, .inr (8, [.ref t, .ref vw, .ref vj, _, _])), (vw, .inl (cW, 40, .inr (.inr (.inr (.inr _))))), (d, .inr (4, [.ref db, _])), (db, .inl (cI, 20, .inl _)), (q_29, .inr (9, [.ref qr, _, _, _, _, _])), (qr, .inr (4, [.ref qb, _])), (qb, .inl (cI, dn, .inl _))]) [3, 4, 5, 6, 2, 0, 1] (by decide) rfl
      exact nu_iret (q_29, qr, qb) X hP hD hS (rfl) (rfl) ⟨by show 3 ≤ 3; omega, by show 0 + 6 + 22 ≤ 28; omega⟩ dX8_addWord_55
    · exact absurd (ltN (a := nw) (b := 40) c_16) (by omega)

set_option maxHeartbeats 1000000 in
set_option maxRecDepth 100000 in
theorem c_X8_addJoin_n {l : Launch} {D : va_G} {cI cJ cW : ClassId} {t v vw vj nw nj d db dn : Nat} {jf : Nat → Option Nat} {df : Nat → Int32} {x y : Int32} (hnj : nj = 8) : RO l yX8_addJoin wsX8_addJoin { frames := 3, cells := 0, slots := 0, locals := 66 } D (ty3 cI cJ cW) [.ref v, .ref d, .int x, .int y] [(v, .inr (8, [.ref t, .ref vw, .ref vj, .int (nI nw), .int (nI nj)])), (vj, .inl (cJ, 8, .inr (.inr (.inr (.inr jf))))), (d, .inr (4, [.ref db, .int (nI dn)])), (db, .inl (cI, 20, .inl df))] (.int (bI false)) := by
  refine ro_of (cc := cX8_addJoin) (maxL := 4) (ret := (some .boolean)) (by decide) rfl (Nat.le_of_ble_eq_true rfl) ?_
  intro pr en ss mi below meth cd X hP hK ls hl
  obtain ⟨hx, hb, hml, hown, hts, hr, hlocks⟩ := id X
  have fl_23 := hts (.fieldLink RX8 23 "WordTables$Vocabulary" "joins" "[LWordTables$Join;") (by decide +kernel)
  have fl_48 := hts (.fieldLink RX8 48 "WordTables$Vocabulary" "joinCount" "I") (by decide +kernel)
  have in_X8 : ∀ w ∈ wsX80, w ∈ wsX8_addJoin := by decide +kernel
  have hl : lv_has ls 4 [(0, .ref v), (1, .ref d), (2, .int x), (3, .int y)] := hl
  refine lv_aload_n hx hb dX8_addJoin_0 rfl (lv_at hl 0 rfl) ?_
  refine va_get (D := D) (ci := 8) (C := RX8) (T := TX8) (N := 5) hx hb hts in_X8 hown hK hP 0 rfl rfl 4 (by decide) fl_48 (fun _ h9 => h9) rfl dX8_addJoin_1 ?_
  refine lv_if_lt (tgt := 19) hx hb dX8_addJoin_4 (by decide) (fun c_4 => ?_) (fun c_4 => ?_)
  · refine lv_iconst (v := 0) hx hb dX8_addJoin_19 (by decide) ?_
    exact ro_zret X (rfl) dX8_addJoin_20
  · refine lv_aload_n hx hb dX8_addJoin_7 rfl (lv_at hl 0 rfl) ?_
    refine va_get (D := D) (ci := 8) (C := RX8) (T := TX8) (N := 5) hx hb hts in_X8 hown hK hP 0 rfl rfl 4 (by decide) fl_48 (fun _ h9 => h9) rfl dX8_addJoin_8 ?_
    refine lv_aload_n hx hb dX8_addJoin_11 rfl (lv_at hl 0 rfl) ?_
    refine va_get (D := D) (ci := 8) (C := RX8) (T := TX8) (N := 5) hx hb hts in_X8 hown hK hP 0 rfl rfl 2 (by decide) fl_23 (fun _ h9 => h9) rfl dX8_addJoin_12 ?_
    refine va_alen (v := nI 8) hx hb hK hP 1 1 rfl rfl rfl dX8_addJoin_15 ?_
    refine lv_icmp_lt (tgt := 21) hx hb dX8_addJoin_16 (by decide) (fun c_16 => ?_) (fun c_16 => ?_)
    · exact absurd (ltL (a := nj) (b := 8) c_16) (by omega)
    · refine lv_iconst (v := 0) hx hb dX8_addJoin_19 (by decide) ?_
      exact ro_zret X (rfl) dX8_addJoin_20

set_option maxHeartbeats 1000000 in
set_option maxRecDepth 100000 in
theorem c_X8_addJoin {l : Launch} {D : va_G} {cI cJ cW : ClassId} {sz : Nat} {t v vw vj nw nj d db dn : Nat} {jf : Nat → Option Nat} {df : Nat → Int32} {x y : Int32} (hnj : nj < 8) (hdn : dn ≤ 20) : NU l yX8_addJoin wsX8_addJoin { frames := 3, cells := 3, slots := 25, locals := 66 } D (ty3 cI cJ cW) [.ref v, .ref d, .int x, .int y] [(v, .inr (8, [.ref t, .ref vw, .ref vj, .int (nI nw), .int (nI nj)])), (vj, .inl (cJ, 8, .inr (.inr (.inr (.inr jf))))), (d, .inr (4, [.ref db, .int (nI dn)])), (db, .inl (cI, 20, .inl df))] sz (fun (_ : Nat × Nat × Nat) => (some (.int (bI true)))) (fun (un : Nat × Nat × Nat) => [(v, .inr (8, [.ref t, .ref vw, .ref vj, .int (nI nw), .int (nI (nj + 1))])), (vj, .inl (cJ, 8, .inr (.inr (.inr (.inr (va_up jf nj (some un.1))))))), (d, .inr (4, [.ref db, .int (nI dn)])), (db, .inl (cI, 20, .inl df))] ++ [(un.1, .inr (2, [.ref un.2.1, .int x, .int y])), (un.2.1, .inr (4, [.ref un.2.2, .int (nI dn)])), (un.2.2, .inl (cI, dn, .inl (cpF (fun _ => 0) df dn)))]) 3 25 := by
  refine nu_of (cc := cX8_addJoin) (maxL := 4) (ret := (some .boolean)) (by decide) rfl (Nat.le_of_ble_eq_true rfl) ?_
  intro pr en ss mi below meth cd X hK hE hin A hA hP hD hS ls hl
  obtain ⟨hx, hb, hml, hown, hts, hr, hlocks⟩ := id X
  have fl_23 := hts (.fieldLink RX8 23 "WordTables$Vocabulary" "joins" "[LWordTables$Join;") (by decide +kernel)
  have fl_48 := hts (.fieldLink RX8 48 "WordTables$Vocabulary" "joinCount" "I") (by decide +kernel)
  have in_X2 : ∀ w ∈ wsX20, w ∈ wsX8_addJoin := by decide +kernel
  have in_X8 : ∀ w ∈ wsX80, w ∈ wsX8_addJoin := by decide +kernel
  have hl : lv_has ls 4 [(0, .ref v), (1, .ref d), (2, .int x), (3, .int y)] := hl
  refine lv_aload_n hx hb dX8_addJoin_0 rfl (lv_at hl 0 rfl) ?_
  refine va_get (D := D) (ci := 8) (C := RX8) (T := TX8) (N := 5) hx hb hts in_X8 hown hK hP 0 rfl rfl 4 (by decide) fl_48 (fun _ h9 => h9) rfl dX8_addJoin_1 ?_
  refine lv_if_lt (tgt := 19) hx hb dX8_addJoin_4 (by decide) (fun c_4 => ?_) (fun c_4 => ?_)
  · exact absurd c_4 (nI_pos (by omega))
  · refine lv_aload_n hx hb dX8_addJoin_7 rfl (lv_at hl 0 rfl) ?_
    refine va_get (D := D) (ci := 8) (C := RX8) (T := TX8) (N := 5) hx hb hts in_X8 hown hK hP 0 rfl rfl 4 (by decide) fl_48 (fun _ h9 => h9) rfl dX8_addJoin_8 ?_
    refine lv_aload_n hx hb dX8_addJoin_11 rfl (lv_at hl 0 rfl) ?_
    refine va_get (D := D) (ci := 8) (C := RX8) (T := TX8) (N := 5) hx hb hts in_X8 hown hK hP 0 rfl rfl 2 (by decide) fl_23 (fun _ h9 => h9) rfl dX8_addJoin_12 ?_
    refine va_alen (v := nI 8) hx hb hK hP 1 1 rfl rfl rfl dX8_addJoin_15 ?_
    refine lv_icmp_lt (tgt := 21) hx hb dX8_addJoin_16 (by decide) (fun c_16 => ?_) (fun c_16 => ?_)
    · refine lv_aload_n hx hb dX8_addJoin_21 rfl (lv_at hl 0 rfl) ?_
      refine va_get (D := D) (ci := 8) (C := RX8) (T := TX8) (N := 5) hx hb hts in_X8 hown hK hP 0 rfl rfl 2 (by decide) fl_23 (fun _ h9 => h9) rfl dX8_addJoin_22 ?_
      refine lv_aload_n hx hb dX8_addJoin_25 rfl (lv_at hl 0 rfl) ?_
      refine va_get (D := D) (ci := 8) (C := RX8) (T := TX8) (N := 5) hx hb hts in_X8 hown hK hP 0 rfl rfl 4 (by decide) fl_48 (fun _ h9 => h9) rfl dX8_addJoin_26 ?_
      refine new_f (ci := 2) (fs := [.null, .int 0, .int 0]) (C := RX2) (T := TX2) (N := 3) hx hb hts in_X2 tyX2 tyX2_ok hown (hts (.classLink RX8 21 RX2) (by decide +kernel)) (hts (.instantiable RX2 3) (by decide +kernel)) (hts (.initialized RX2) (by decide +kernel)) hK hP hD hS hA rfl (fun j hj => by rcases (show j = 0 ∨ j = 1 ∨ j = 2 by omega) with rfl | rfl | rfl <;> rfl) (by show 0 + 1 ≤ 3; omega) (by show 0 + 3 ≤ 25; omega) dX8_addJoin_29 (fun q_29 H hP hD hS => ?_)
      have hP : va_P D vwCl [(q_29, .inr (2, [_, _, _])), (v, .inr (8, [.ref t, .ref vw, .ref vj, _, _])), (vj, .inl (cJ, 8, .inr (.inr (.inr (.inr _))))), (d, .inr (4, [.ref db, _])), (db, .inl (cI, 20, .inl _))] H := hP
      have hD : va_D A [(q_29, .inr (2, [_, _, _])), (v, .inr (8, [.ref t, .ref vw, .ref vj, _, _])), (vj, .inl (cJ, 8, .inr (.inr (.inr (.inr _))))), (d, .inr (4, [.ref db, _])), (db, .inl (cI, 20, .inl _))] := hD
      refine lv_dup hx hb dX8_addJoin_32 rfl ?_
      refine lv_aload_n hx hb dX8_addJoin_33 rfl (lv_at hl 1 rfl) ?_
      refine lv_iload_n hx hb dX8_addJoin_34 rfl (lv_at hl 2 rfl) ?_
      refine lv_iload_n hx hb dX8_addJoin_35 rfl (lv_at hl 3 rfl) ?_
      refine nu_I (n := 3) (ms := 22) X hK hE (c_X2_init hdn) gX8_addJoin_X2_init rfl (hts (.initialized RX2) (by decide +kernel)) (hts (.methodLink RX8 55 yX2_init) (by decide +kernel)) (hts (.instanceMethod yX2_init) (by decide +kernel)) rfl (by decide +kernel) ⟨rfl, rfl⟩ ⟨Nat.le_of_ble_eq_true rfl, Nat.le_of_ble_eq_true rfl⟩ [0, 3, 4] rfl rfl (fun _ => rfl) (fun _ => rfl) (fun _ => rfl) hA hP hD hS rfl hl.1 rfl (Nat.le_of_ble_eq_true rfl) dX8_addJoin_36 ⟨by show 1 + 2 ≤ 3; omega, by show 0 + 3 + 22 ≤ 25; omega⟩ (fun un H locs hP hD hS => ?_)
      obtain ⟨qr, qb⟩ := un
      have hP : va_P D vwCl [(qr, .inr (4, [.ref qb, _])), (qb, .inl (cI, dn, .inl _)), (q_29, .inr (2, [.ref qr, _, _])), (v, .inr (8, [.ref t, .ref vw, .ref vj, _, _])), (vj, .inl (cJ, 8, .inr (.inr (.inr (.inr _))))), (d, .inr (4, [.ref db, _])), (db, .inl (cI, 20, .inl _))] H := hP
      have hD : va_D A [(qr, .inr (4, [.ref qb, _])), (qb, .inl (cI, dn, .inl _)), (q_29, .inr (2, [.ref qr, _, _])), (v, .inr (8, [.ref t, .ref vw, .ref vj, _, _])), (vj, .inl (cJ, 8, .inr (.inr (.inr (.inr _))))), (d, .inr (4, [.ref db, _])), (db, .inl (cI, 20, .inl _))] := hD
      refine ast_q hx hb hK hP hD hS 4 1 2 2 rfl rfl rfl rfl hnj (by decide) dX8_addJoin_39 (fun H locs hP hD hS => ?_)
      have hP : va_P D vwCl [(qr, .inr (4, [.ref qb, _])), (qb, .inl (cI, dn, .inl _)), (q_29, .inr (2, [.ref qr, _, _])), (v, .inr (8, [.ref t, .ref vw, .ref vj, _, _])), (vj, .inl (cJ, 8, .inr (.inr (.inr (.inr _))))), (d, .inr (4, [.ref db, _])), (db, .inl (cI, 20, .inl _))] H := hP
      have hD : va_D A [(qr, .inr (4, [.ref qb, _])), (qb, .inl (cI, dn, .inl _)), (q_29, .inr (2, [.ref qr, _, _])), (v, .inr (8, [.ref t, .ref vw, .ref vj, _, _])), (vj, .inl (cJ, 8, .inr (.inr (.inr (.inr _))))), (d, .inr (4, [.ref db, _])), (db, .inl (cI, 20, .inl _))] := hD
      refine lv_aload_n hx hb dX8_addJoin_40 rfl (lv_at hl 0 rfl) ?_
      refine lv_dup hx hb dX8_addJoin_41 rfl ?_
      refine va_get (D := D) (ci := 8) (C := RX8) (T := TX8) (N := 5) hx hb hts in_X8 hown hK hP 3 rfl rfl 4 (by decide) fl_48 (fun _ h9 => h9) rfl dX8_addJoin_42 ?_
      refine lv_iconst (v := 1) hx hb dX8_addJoin_45 (by decide) ?_
      refine lv_iadd hx hb dX8_addJoin_46 ?_
      refine topi_eq (nI_1 nj) ?_
      refine va_put (D := D) (ci := 8) (ty := .int) (C := RX8) (T := TX8) (N := 5) hx hb hts in_X8 tyX8 tyX8_ok nmX8 hown hK hP hD hS 3 rfl rfl 4 (by decide) fl_48 (fun _ h9 => h9) rfl (by decide +kernel) rfl rfl (Nat.le_of_ble_eq_true rfl) dX8_addJoin_47 (fun H locs hP hD hS => ?_)
      have hP : va_P D vwCl [(qr, .inr (4, [.ref qb, _])), (qb, .inl (cI, dn, .inl _)), (q_29, .inr (2, [.ref qr, _, _])), (v, .inr (8, [.ref t, .ref vw, .ref vj, _, _])), (vj, .inl (cJ, 8, .inr (.inr (.inr (.inr _))))), (d, .inr (4, [.ref db, _])), (db, .inl (cI, 20, .inl _))] H := hP
      have hD : va_D A [(qr, .inr (4, [.ref qb, _])), (qb, .inl (cI, dn, .inl _)), (q_29, .inr (2, [.ref qr, _, _])), (v, .inr (8, [.ref t, .ref vw, .ref vj, _, _])), (vj, .inl (cJ, 8, .inr (.inr (.inr (.inr _))))), (d, .inr (4, [.ref db, _])), (db, .inl (cI, 20, .inl _))] := hD
      refine lv_iconst (v := 1) hx hb dX8_addJoin_50 (by decide) ?_
      have hP := hP.sub (ws' := [(v, .inr (8, [.ref t, .ref vw, .ref vj, _, _])), (vj, .inl (cJ, 8, .inr (.inr (.inr (.inr _))))), (d, .inr (4, [.ref db, _])), (db, .inl (cI, 20, .inl _)), (q_29, .inr (2, [.ref qr, _, _])), (qr, .inr (4, [.ref qb, _])), (qb, .inl (cI, dn, .inl _))]) [3, 4, 5, 6, 2, 0, 1] rfl
      have hD := hD.sub (ws' := [(v, .inr (8, [.ref t, .ref vw, .ref vj, _, _])), (vj, .inl (cJ, 8, .inr (.inr (.inr (.inr _))))), (d, .inr (4, [.ref db, _])), (db, .inl (cI, 20, .inl _)), (q_29, .inr (2, [.ref qr, _, _])), (qr, .inr (4, [.ref qb, _])), (qb, .inl (cI, dn, .inl _))]) [3, 4, 5, 6, 2, 0, 1] (by decide) rfl
      exact nu_zret (q_29, qr, qb) X hP hD hS (rfl) rfl (rfl) ⟨by show 3 ≤ 3; omega, by show 0 + 3 + 22 ≤ 25; omega⟩ dX8_addJoin_51
    · exact absurd (ltN (a := nj) (b := 8) c_16) (by omega)
