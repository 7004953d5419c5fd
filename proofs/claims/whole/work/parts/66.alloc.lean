/-! methods that make cells -/
def xE (U : State) : Prop := va_AO "WordTables$Word" U ∧ va_AO "WordTables$Join" U ∧ va_Nw (.methodLinkNest RX10 64 yX5_init "WordTables") U ∧ va_Nw (.methodLinkNest RX10 71 yX0_init "WordTables") U
theorem xE_warm {s U : State} (hW : s.WarmedH U.vm) (h : xE s) : xE U := ⟨va_AO.moved hW.alike h.1, va_AO.moved hW.alike h.2.1, va_Nw.warmM hW h.2.2.1, va_Nw.warmM hW h.2.2.2⟩
def aP (D : va_G) (tys : List (ClassId × FieldType)) (wo : va_W) (sz : Nat) : State → Prop := fun U => mP D tys wo sz U ∧ xE U
def nQ {S : Type} (r : S → Option Value) (D : va_G) (w1 : S → va_W) (A : Nat → Prop) : Array Value → State → Outcome → State → Prop := fun _ st oc t => ∃ u : S, oc = .returned (r u) ∧ va_P D vwCl (w1 u) t.heap ∧ va_D A (w1 u) ∧ va_F A st t
abbrev NU (l : Launch) (y : MethodName) (ws : List Cond) (rm : Room) (D : va_G) (tys : List (ClassId × FieldType)) (as : List Value) (wo : va_W) (sz : Nat) {S : Type} (r : S → Option Value) (w1 : S → va_W) (mc ms : Nat) : Prop := Met l y ws rm (va_Pc as (aP D tys wo sz)) (nQ r D w1 (va_A wo sz)) mc ms (va_A wo sz)
theorem aP_blind {as : List Value} {D : va_G} {tys : List (ClassId × FieldType)} {wo : va_W} {sz : Nat} : FrameBlind (va_Pc as (aP D tys wo sz)) := fun a U g mk q =>
  have h := mP_blind (as := as) a U g mk ⟨q.1, q.2.1⟩
  ⟨h.1, h.2, va_AO.moved (u := U) (U := U.calling g mk a) (Vm.Alike.refl U.vm) q.2.2.1, va_AO.moved (u := U) (U := U.calling g mk a) (Vm.Alike.refl U.vm) q.2.2.2.1, va_Nw.same rfl (u := U) (U := U.calling g mk a) rfl q.2.2.2.2.1, va_Nw.same rfl (u := U) (U := U.calling g mk a) rfl q.2.2.2.2.2⟩
theorem cons_P {D : va_G} {cl : List vw_C} {ws : va_W} {q : Nat × va_E} {H : Heap} (h : va_P D cl (ws ++ [q]) H) : va_P D cl (q :: ws) H := memP h (fun x hx => by
  rcases List.mem_cons.mp hx with e | e
  · rw [e]; simp
  · exact List.mem_append_left _ e)
theorem app_D {A : Nat → Prop} {w1 w2 : va_W} (h : va_D A (w1 ++ w2)) : va_D A (w2 ++ w1) := by
  have e1 : ∀ (k : Nat) (q : Nat × va_E), w1[k]? = some q → (w1 ++ w2)[k]? = some q := fun k q hk => by
    rw [List.getElem?_append_left (List.getElem?_eq_some_iff.mp hk).1]; exact hk
  have e2 : ∀ (k : Nat) (q : Nat × va_E), w2[k]? = some q → (w1 ++ w2)[w1.length + k]? = some q := fun k q hk => by
    rw [List.getElem?_append_right (by omega), show w1.length + k - w1.length = k by omega]; exact hk
  refine va_D.app ⟨fun i j p q hi hj hpq => ?_, fun k q hk => h.2 _ q (e2 k q hk)⟩ ⟨fun i j p q hi hj hpq => ?_, fun k q hk => h.2 _ q (e1 k q hk)⟩ (fun i j p q hi hj hpq => ?_)
  · have := h.1 _ _ p q (e2 i p hi) (e2 j q hj) hpq; omega
  · exact h.1 _ _ p q (e1 i p hi) (e1 j q hj) hpq
  · have h1 := h.1 _ _ p q (e2 i p hi) (e1 j q hj) hpq
    have h2 := (List.getElem?_eq_some_iff.mp hj).1
    omega
theorem cons_D {A : Nat → Prop} {ws : va_W} {q : Nat × va_E} (h : va_D A (ws ++ [q])) : va_D A (q :: ws) := app_D h
section ALLOC
variable {p : Program} {l : Launch} {e : Env} {R : Room} {s : State} {m : MethodId} {args : Array Value} {below : List Frame} {meth : Method} {c : Code} {H : Heap} {locs : List Loc} {cells slots : Nat} {Q : State → Prop}
variable {D : va_G} {tys : List (ClassId × FieldType)} {cc bytes : ByteArray} {pc nL maxL n index mc ms : Nat} {ls : Array Slot} {rest st As : List Value} {y : MethodName} {ret : Option FieldType} {ws ws' Ts : List Cond} {rm : Room} {own C : String} {b : Nat}
theorem nu_of {S : Type} {r : S → Option Value} {wo : va_W} {w1 : S → va_W} {as : List Value} {sz : Nat} (hy : plainName y.cls = true) (hw : ws = Cond.code y cc maxL ret :: ws') (hlen : (lg_sl as).length ≤ maxL)
    (body : ∀ (p : Program) (e : Env) (s : State) (m : MethodId) (below : List Frame) (meth : Method) (c : Code), Cx p s m as.toArray meth c cc ret maxL ws y.cls → va_K D vwCl tys s → xE s → meth.name = y.name → ∀ A : Nat → Prop, (∀ q : Nat, s.heap.size ≤ q → A q) → va_P D vwCl wo s.heap → va_D A wo → va_S A s.heap s.heap [] → ∀ ls : Array Slot, lv_has ls maxL (lv_args 0 as) →
      W p l e rm s m as.toArray below meth c s.heap [] 0 0 (MQ below (nQ r D w1 A) as.toArray s mc ms A) (F0 m 0 ls [])) : NU l y ws rm D tys as wo sz r w1 mc ms := by
  refine Met.ofW (cc := cc) (maxL := maxL) (ret := ret) hy hw ?_
  intro p e s m args below meth c s₁ B hml hv
  obtain ⟨rfl, ⟨hsz, hP, hK, hD0⟩, hE⟩ := hv
  subst hsz
  have hl := lv_entry as (n := maxL) hlen
  rw [lg_entry_eq]
  exact body p e s m below meth c ⟨B.exec, B.bytes, hml, findClass_of_methodNamed B.named, atoms_spec (ws := ws) B.pre, B.returns, B.notSynchronized⟩ hK hE (name_of_methodNamed B.named B.method).1 _ (fun q h => Or.inr h) hP (hD0.self (sz := s.heap.size)) va_S.rf _ hl
theorem nu_vret {S : Type} {r : S → Option Value} {A : Nat → Prop} {w : va_W} {w1 : S → va_W} (u : S) (X : Cx p s m args meth c cc none nL Ts own) (hP : va_P D vwCl w H) (hD : va_D A w) (hS : va_S A s.heap H locs) (hru : r u = none) (hw : w = w1 u) (hc : cells ≤ mc ∧ slots ≤ ms) (hdg : decode cc pc = .ok (.return_, 1)) : W p l e R s m args below meth c H locs cells slots (MQ below (nQ r D w1 A) args s mc ms A) (F0 m pc ls []) := by
  subst hw
  obtain ⟨hx, hb, -, -, -, hr, hlocks⟩ := X
  refine W.widen hc.1 hc.2 ?_
  exact W.vret hx hb hr (fun t ht _ => ⟨u, by rw [hru], by rw [ht]; exact hP, hD, hS.F ht⟩) hS.2.2 hdg hlocks
theorem nu_iret {S : Type} {r : S → Option Value} {A : Nat → Prop} {w : va_W} {w1 : S → va_W} {v : Int32} (u : S) (X : Cx p s m args meth c cc (some .int) nL Ts own) (hP : va_P D vwCl w H) (hD : va_D A w) (hS : va_S A s.heap H locs) (hru : r u = some (.int v)) (hw : w = w1 u) (hc : cells ≤ mc ∧ slots ≤ ms) (hdg : decode cc pc = .ok (.ireturn, 1)) : W p l e R s m args below meth c H locs cells slots (MQ below (nQ r D w1 A) args s mc ms A) (F0 m pc ls [.int v]) := by
  subst hw
  obtain ⟨hx, hb, -, -, -, hr, hlocks⟩ := X
  refine W.widen hc.1 hc.2 ?_
  exact W.iret hx hb hr (fun t ht _ => ⟨u, by rw [hru], by rw [ht]; exact hP, hD, hS.F ht⟩) hS.2.2 hdg hlocks
theorem nu_zret {S : Type} {r : S → Option Value} {A : Nat → Prop} {w : va_W} {w1 : S → va_W} {v : Int32} {bo : Bool} (u : S) (X : Cx p s m args meth c cc (some .boolean) nL Ts own) (hP : va_P D vwCl w H) (hD : va_D A w) (hS : va_S A s.heap H locs) (hv : v = bI bo) (hru : r u = some (.int (bI bo))) (hw : w = w1 u) (hc : cells ≤ mc ∧ slots ≤ ms) (hdg : decode cc pc = .ok (.ireturn, 1)) : W p l e R s m args below meth c H locs cells slots (MQ below (nQ r D w1 A) args s mc ms A) (F0 m pc ls [.int v]) := by
  subst hw; subst hv
  obtain ⟨hx, hb, -, -, -, hr, hlocks⟩ := X
  refine W.widen hc.1 hc.2 ?_
  exact W.zret hx hb hr (bI_nar bo) (fun t ht _ => ⟨u, by rw [hru], by rw [ht]; exact hP, hD, hS.F ht⟩) hS.2.2 hdg hlocks
variable {A : Nat → Prop} {H0 : Heap} {wo : va_W}
theorem new_f {T : u_T} {N ci : Nat} (hexec : p.tables.exec = Jvm.exec) (hb : c.code = cc) (hts : ∀ w ∈ Ts, w.before args s = true) (hin : ∀ w ∈ u_ws C T N, w ∈ Ts) (ty : Nat → FieldType) (hty : ∀ k, k < N → parseFieldDescriptor (T k).2.2.1 = some (ty k)) (hown : s.vm.findClass own = some m.cls) (hcl : (Cond.classLink own index C).before args s = true) (hinst : (Cond.instantiable C N).before args s = true) (hini : (Cond.initialized C).before args s = true)
    (hK : va_K D vwCl tys s) (hP : va_P D vwCl wo H) (hD : va_D A wo) (hS : va_S A H0 H locs) (hA : ∀ q, H0.size ≤ q → A q) (hc : vwCl[ci]? = some (C, T, N)) {fs : List Value} (hfs : ∀ j, j < N → defaultValue (ty j) = vp_V fs j) (hcells : cells + 1 ≤ R.cells) (hslots : slots + N ≤ R.slots) (hdg : decode cc pc = .ok (.new index, 3))
    (kk : ∀ (q : Nat) (H1 : Heap), va_P D vwCl ((q, .inr (ci, fs)) :: wo) H1 → va_D A ((q, .inr (ci, fs)) :: wo) → va_S A H0 H1 locs → W p l e R s m args below meth c H1 locs (cells + 1) (slots + N) Q (F0 m (pc + 3) ls (.ref q :: rest))) : W p l e R s m args below meth c H locs cells slots Q (F0 m pc ls rest) :=
  va_new hexec hb hts hin ty hty hown hcl hinst hini hK hP hD hS hA hc hfs hcells hslots hdg (fun q H1 h1 h2 h3 => kk q H1 (cons_P h1) (cons_D h2) h3)
theorem newa_f {cI cJ cW : ClassId} (hexec : p.tables.exec = Jvm.exec) (hb : c.code = cc) (harr : (Cond.arrayClass .int).before args s = true) (hK : va_K D vwCl (ty3 cI cJ cW) s) (hP : va_P D vwCl wo H) (hD : va_D A wo) (hS : va_S A H0 H locs) (hA : ∀ q, H0.size ≤ q → A q)
    {nn : Int32} {N' : Nat} (hn : nn = nI N') (hN : N' ≤ 1000) (hcells : cells + 1 ≤ R.cells) (hslots : slots + N' ≤ R.slots) (hdg : decode cc pc = .ok (.newarray .int, 2))
    (kk : ∀ (q : Nat) (H1 : Heap), va_P D vwCl ((q, .inl (cI, N', .inl (fun _ => 0))) :: wo) H1 → va_D A ((q, .inl (cI, N', .inl (fun _ => 0))) :: wo) → va_S A H0 H1 locs → W p l e R s m args below meth c H1 locs (cells + 1) (slots + N') Q (F0 m (pc + 2) ls (.ref q :: rest))) : W p l e R s m args below meth c H locs cells slots Q (F0 m pc ls (.int nn :: rest)) := by
  subst hn
  refine va_newa (atype := .int) (ty := .int) (a0 := (N', .inl (fun _ => 0))) hexec hb harr rfl hK hP hD hS hA (fun cA => rfl) (nI_pos (by omega)) (nI_clamp (by omega)) (by show N' * 4 ≤ _; omega) hcells hslots hdg (fun q cA H1 hK1 h1 h2 h3 => ?_)
  have e1 := (hK1.2 3 (cA, .int) rfl).2
  have e2 := (hK.2 0 (cI, .int) rfl).2
  have e3 : cA = cI := Option.some.inj (Eq.trans (Eq.symm (show s.vm.findClass _ = some cA from e1)) (show s.vm.findClass _ = some cI from e2))
  subst e3
  exact kk q H1 (cons_P h1) (cons_D h2) h3
/-- a call that makes cells: its own go back to their places, the new ones stand in front -/
theorem nu_J {S : Type} {r : S → Option Value} {A0 : Nat → Prop} {ws0 fc : va_W} {f1 nw : S → va_W} {args' : Array Value}
    (hr : va_Run p l e R s m args below meth c H locs cells slots mc ms (F0 m pc ls st) rest (nQ r D (fun u => f1 u ++ nw u) (va_A fc H.size) args') (va_A fc H.size))
    (isC : List Nat) (hC : isC.map (fun i => ws0[i]?) = fc.map some) (hl1 : ∀ u, isC.length = (f1 u).length) (hm1 : ∀ u, (f1 u).map (·.1) = fc.map (·.1)) (hm2 : ∀ u, (sA ws0 isC (f1 u)).map (·.1) = ws0.map (·.1)) (hA : ∀ q : Nat, s.heap.size ≤ q → A0 q) (hP : va_P D vwCl ws0 H) (hD : va_D A0 ws0) (hS : va_S A0 s.heap H locs)
    (kk : ∀ (u : S) (H1 : Heap) (locs1 : List Loc), va_P D vwCl (nw u ++ sA ws0 isC (f1 u)) H1 → va_D A0 (nw u ++ sA ws0 isC (f1 u)) → va_S A0 s.heap H1 locs1 → W p l e R s m args below meth c H1 locs1 (cells + mc) (slots + ms) Q (F0 m (pc + 3) ls ((r u).toList ++ rest))) : W p l e R s m args below meth c H locs cells slots Q (F0 m pc ls st) := by
  have hFc := va_free (wc := fc) hD hS hA isC hC
  intro T hT' X
  obtain ⟨v, st₀, t, T', L, h0, X', hL, e1, e2, ⟨u, hv, hp, hd1, hz, hk⟩, stp⟩ := hr T hT' X
  cases hv
  rw [h0] at hz hk
  have hkH : ∀ q : Nat, q < H.size → ¬ va_A fc H.size q → T'.heap[q]? = H[q]? := fun q h1 h2 => by rw [e1]; exact hk q h1 h2
  have hp' : va_P D vwCl (f1 u ++ nw u) T'.heap := by rw [e1]; exact hp
  have hPf : va_P D vwCl (f1 u) T'.heap := memP hp' (fun q hq => List.mem_append_left _ hq)
  have hPn : va_P D vwCl (nw u) T'.heap := memP hp' (fun q hq => List.mem_append_right _ hq)
  have hfresh : ∀ (k : Nat) (q : Nat × va_E), (nw u)[k]? = some q → H.size ≤ q.1 := by
    intro k q hk'
    have hin : (f1 u ++ nw u)[(f1 u).length + k]? = some q := by rw [List.getElem?_append_right (by omega), show (f1 u).length + k - (f1 u).length = k by omega]; exact hk'
    rcases hd1.2 _ q hin with ⟨j, e', h⟩ | h
    · exfalso
      have h3 : (fc.map (·.1))[j]? = some q.1 := by rw [List.getElem?_map, h]; rfl
      rw [← hm1 u, List.getElem?_map] at h3
      cases h4 : (f1 u)[j]? with
      | none => rw [h4] at h3; cases h3
      | some q2 =>
        rw [h4] at h3
        have hjl := (List.getElem?_eq_some_iff.mp h4).1
        have := hd1.1 j _ q2 q (by rw [List.getElem?_append_left hjl]; exact h4) hin (Option.some.inj h3)
        omega
    · exact h
  have hDn : va_D A0 (nw u) := by
    refine ⟨fun i j x y' hi hj hxy => ?_, fun k q hk' => hA _ (Nat.le_trans hS.1 (hfresh k q hk'))⟩
    have a1 : (f1 u ++ nw u)[(f1 u).length + i]? = some x := by rw [List.getElem?_append_right (by omega), show (f1 u).length + i - (f1 u).length = i by omega]; exact hi
    have a2 : (f1 u ++ nw u)[(f1 u).length + j]? = some y' := by rw [List.getElem?_append_right (by omega), show (f1 u).length + j - (f1 u).length = j by omega]; exact hj
    have := hd1.1 _ _ x y' a1 a2 hxy
    omega
  have hDs : va_D A0 (sA ws0 isC (f1 u)) := va_D_map (hm2 u) hD
  obtain ⟨t2, a1, b1⟩ := kk u T'.heap (locs ++ L) (va_P.app hPn (jn_set hP hD isC hC (hl1 u) hkH hPf))
    (va_D.app hDn hDs (fun i j x y' hi hj hxy => by
      have h1 := hfresh i x hi
      have h2 : (ws0.map (·.1))[j]? = some y'.1 := by rw [← hm2 u, List.getElem?_map, hj]; rfl
      rw [List.getElem?_map] at h2
      cases h3 : ws0[j]? with
      | none => rw [h3] at h2; cases h2
      | some q0 =>
        rw [h3] at h2
        have h4 := (hP j q0 h3).lt
        have h5 : q0.1 = y'.1 := Option.some.inj h2
        omega))
    ⟨Nat.le_trans hS.1 (by rw [e1]; exact hz), fun q h1 h2 => by rw [hkH q (Nat.lt_of_lt_of_le h1 hS.1) (fun z => h2 (hFc q z))]; exact hS.2.1 q h1 h2, fun q hq => by
      rcases List.mem_append.mp hq with h | h
      · exact hS.2.2 q h
      · exact hFc _ (hL q h)⟩ T' rfl X'
  exact ⟨t2, stp t2 a1, b1⟩
theorem nu_pre {A0 : Nat → Prop} {ws0 fc : va_W} {As' : List Value} (hK : va_K D vwCl tys s) (hE : xE s) (isC : List Nat) (hnd : va_nd isC = true) (hC : isC.map (fun i => ws0[i]?) = fc.map some) (hP : va_P D vwCl ws0 H) (hD : va_D A0 ws0) : ∀ U : State, U.heap = H → s.WarmedH U.vm → va_Pc As' (aP D tys fc H.size) As'.toArray U := by
  have hPc : va_P D vwCl fc H := fun k q hk => by
    obtain ⟨i, -, h2⟩ := jn_at hC hk
    exact hP i q h2
  have hDc : va_D A0 fc := hD.sub isC hnd hC
  exact fun U hU hWm => ⟨rfl, ⟨by rw [hU], by rw [hU]; exact hPc, va_K.moved hWm.alike hK, hDc.weaken (fun _ _ _ _ => trivial)⟩, xE_warm hWm hE⟩
theorem nu_I {S : Type} {r : S → Option Value} {A0 : Nat → Prop} {ws0 fc : va_W} {f1 nw : S → va_W} (X : Cx p s m args meth c cc ret nL Ts own) (hK : va_K D vwCl tys s) (hE : xE s) (hM : NU l y ws rm D tys (.ref b :: As) fc H.size r (fun u => f1 u ++ nw u) mc ms) (hG : GoodIn Ts ws) (hw : ws = Cond.code y bytes maxL none :: ws') (hini : (Cond.initialized y.cls).before args s = true) (hlk : (Cond.methodLink own index y).before args s = true) (hinm : (Cond.instanceMethod y).before args s = true) (hy1 : y.name = "<init>")
    (hd : y.cls ≠ "java/lang/invoke/MethodHandle" ∧ y.cls ≠ "java/lang/invoke/VarHandle" ∧ (parseMethodDescriptor y.desc).map (fun d => d.parameters.length) = some n) (hrm : rm.cells = mc ∧ rm.slots = ms) (hR : rm.frames + 1 ≤ R.frames ∧ 8 + (maxL + 11) + rm.locals ≤ R.locals)
    (isC : List Nat) (hnd : va_nd isC = true) (hC : isC.map (fun i => ws0[i]?) = fc.map some) (hl1 : ∀ u, isC.length = (f1 u).length) (hm1 : ∀ u, (f1 u).map (·.1) = fc.map (·.1)) (hm2 : ∀ u, (sA ws0 isC (f1 u)).map (·.1) = ws0.map (·.1)) (hA : ∀ q : Nat, s.heap.size ≤ q → A0 q) (hP : va_P D vwCl ws0 H) (hD : va_D A0 ws0) (hS : va_S A0 s.heap H locs)
    (hn : As.length = n) (hsz : ls.size = nL) (hst : st = As.reverse ++ .ref b :: rest) (hW : (rest.map fun v => v.category).sum ≤ 8) (hdg : decode cc pc = .ok (.invokespecial index, 3)) (hf : cells + mc ≤ R.cells ∧ slots + ms ≤ R.slots)
    (kk : ∀ (u : S) (H1 : Heap) (locs1 : List Loc), va_P D vwCl (nw u ++ sA ws0 isC (f1 u)) H1 → va_D A0 (nw u ++ sA ws0 isC (f1 u)) → va_S A0 s.heap H1 locs1 → W p l e R s m args below meth c H1 locs1 (cells + mc) (slots + ms) Q (F0 m (pc + 3) ls ((r u).toList ++ rest))) : W p l e R s m args below meth c H locs cells slots Q (F0 m pc ls st) := by
  obtain ⟨hx, hb, hml, hown, hts, -, -⟩ := X
  exact nu_J (va_runI (g := F0 m pc ls st) ⟨hx, hb, hml, hown, hts⟩ hM (cwI n hts hG hw hrm.1 hrm.2 hini hlk hinm hy1 hd hR) ⟨aP_blind, nu_pre hK hE isC hnd hC hP hD⟩ rfl hn hsz hst (lv_room hW) hdg hf) isC hC hl1 hm1 hm2 hA hP hD hS kk
theorem nu_V {S : Type} {r : S → Option Value} {A0 : Nat → Prop} {ws0 fc : va_W} {f1 nw : S → va_W} (X : Cx p s m args meth c cc ret nL Ts own) (hK : va_K D vwCl tys s) (hE : xE s) {bret : Option FieldType} (hM : NU l y ws rm D tys (.ref b :: As) fc H.size r (fun u => f1 u ++ nw u) mc ms) (hT : GoodIn Ts (wsV own index C y ws)) (hw : ws = Cond.code y bytes maxL bret :: ws')
    (hd : y.cls = C ∧ y.cls ≠ "java/lang/invoke/MethodHandle" ∧ y.cls ≠ "java/lang/invoke/VarHandle" ∧ (parseMethodDescriptor y.desc).map (fun d => d.parameters.length) = some n) (hrm : rm.cells = mc ∧ rm.slots = ms) (hR : rm.frames + 1 ≤ R.frames ∧ 8 + (maxL + 11) + rm.locals ≤ R.locals)
    (isC : List Nat) (hnd : va_nd isC = true) (hC : isC.map (fun i => ws0[i]?) = fc.map some) (hl1 : ∀ u, isC.length = (f1 u).length) (hm1 : ∀ u, (f1 u).map (·.1) = fc.map (·.1)) (hm2 : ∀ u, (sA ws0 isC (f1 u)).map (·.1) = ws0.map (·.1)) (hA : ∀ q : Nat, s.heap.size ≤ q → A0 q) (hP : va_P D vwCl ws0 H) (hD : va_D A0 ws0) (hS : va_S A0 s.heap H locs)
    (hrv : ∃ cellB : Cell, H[b]? = some cellB ∧ cellB.vm.isStatics = false ∧ s.vm.findClass C = some cellB.cls) (hn : As.length = n) (hsz : ls.size = nL) (hst : st = As.reverse ++ .ref b :: rest) (hW : (rest.map fun v => v.category).sum ≤ 8) (hdg : decode cc pc = .ok (.invokevirtual index, 3)) (hf : cells + mc ≤ R.cells ∧ slots + ms ≤ R.slots)
    (kk : ∀ (u : S) (H1 : Heap) (locs1 : List Loc), va_P D vwCl (nw u ++ sA ws0 isC (f1 u)) H1 → va_D A0 (nw u ++ sA ws0 isC (f1 u)) → va_S A0 s.heap H1 locs1 → W p l e R s m args below meth c H1 locs1 (cells + mc) (slots + ms) Q (F0 m (pc + 3) ls ((r u).toList ++ rest))) : W p l e R s m args below meth c H locs cells slots Q (F0 m pc ls st) := by
  obtain ⟨hx, hb, hml, hown, hts, -, -⟩ := X
  exact nu_J (va_runV (g := F0 m pc ls st) ⟨hx, hb, hml, hown, hts⟩ hM (cwV n hts hT hw hrm.1 hrm.2 hd hR) ⟨aP_blind, hrv, nu_pre hK hE isC hnd hC hP hD⟩ rfl hn hsz hst (lv_room hW) hdg hf) isC hC hl1 hm1 hm2 hA hP hD hS kk
end ALLOC
