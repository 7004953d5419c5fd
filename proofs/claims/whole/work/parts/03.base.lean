/-! contracts that only read, contracts that change their own cells, and how both are called -/
def bI (b : Bool) : Int32 := if b then 1 else 0
theorem bI_0 {b : Bool} : bI b = 0 ↔ b = false := by cases b <;> simp [bI]
theorem bI_n0 {b : Bool} : ¬ bI b = 0 ↔ b = true := by cases b <;> simp [bI]
theorem bI_1 {b : Bool} : bI b = 1 ↔ b = true := by cases b <;> simp [bI]
theorem bI_nar (b : Bool) : narrow .boolean (.int (bI b)) = .int (bI b) := by cases b <;> rfl
theorem bI_fit (b : Bool) : fits .boolean (.int (bI b)) = true := by cases b <;> rfl
abbrev ty3 (cI cJ cW : ClassId) : List (ClassId × FieldType) := [(cI, .int), (cJ, .object "WordTables$Join"), (cW, .object "WordTables$Word")]
def rP (D : va_G) (tys : List (ClassId × FieldType)) (wo : va_W) : State → Prop := fun U => va_P D vwCl wo U.heap ∧ va_K D vwCl tys U
def mP (D : va_G) (tys : List (ClassId × FieldType)) (wo : va_W) (sz : Nat) : State → Prop := fun U => U.heap.size = sz ∧ va_P D vwCl wo U.heap ∧ va_K D vwCl tys U ∧ va_D (fun _ => True) wo
def mQ (r : Option Value) (D : va_G) (w1 : va_W) (A : Nat → Prop) : Array Value → State → Outcome → State → Prop := fun _ st oc t => oc = .returned r ∧ va_P D vwCl w1 t.heap ∧ va_F A st t
abbrev RO (l : Launch) (y : MethodName) (ws : List Cond) (rm : Room) (D : va_G) (tys : List (ClassId × FieldType)) (as : List Value) (wo : va_W) (r : Value) : Prop := Met l y ws rm (va_Pc as (rP D tys wo)) (k2_QcV r) 0 0 (fun _ => False)
abbrev MU (l : Launch) (y : MethodName) (ws : List Cond) (rm : Room) (D : va_G) (tys : List (ClassId × FieldType)) (as : List Value) (wo : va_W) (sz : Nat) (r : Option Value) (w1 : va_W) : Prop := Met l y ws rm (va_Pc as (mP D tys wo sz)) (mQ r D w1 (va_A wo sz)) 0 0 (va_A wo sz)
theorem rP_blind {as : List Value} {D : va_G} {tys : List (ClassId × FieldType)} {wo : va_W} : FrameBlind (va_Pc as (rP D tys wo)) := fun a U g mk q => ⟨q.1, q.2.1, va_K.moved (u := U) (U := U.calling g mk a) (Vm.Alike.refl U.vm) q.2.2⟩
theorem mP_blind {as : List Value} {D : va_G} {tys : List (ClassId × FieldType)} {wo : va_W} {sz : Nat} : FrameBlind (va_Pc as (mP D tys wo sz)) := fun a U g mk q => ⟨q.1, q.2.1, q.2.2.1, va_K.moved (u := U) (U := U.calling g mk a) (Vm.Alike.refl U.vm) q.2.2.2.1, q.2.2.2.2⟩
/-- the cells of a world put back in their places -/
def sA (ws : va_W) : List Nat → va_W → va_W
  | i :: is, q :: qs => sA (ws.set i q) is qs
  | _, _ => ws
theorem sA_P {D : va_G} {cl : List vw_C} {H1 : Heap} : ∀ (is : List Nat) (qs : va_W) (ws : va_W), is.length = qs.length → (∀ (k : Nat) (q : Nat × va_E), ws[k]? = some q → k ∉ is → va_at D cl q H1) → (∀ q ∈ qs, va_at D cl q H1) → va_P D cl (sA ws is qs) H1
  | [], [], ws, _, h, _ => fun k q hk => h k q hk (by simp)
  | i :: is, q :: qs, ws, hl, h, hq => by
    refine sA_P is qs (ws.set i q) (by simpa using hl) (fun k x hk hn => ?_) (fun x hx => hq x (List.mem_cons_of_mem _ hx))
    by_cases hki : k = i
    · subst hki
      have hlt : k < ws.length := by
        have := (List.getElem?_eq_some_iff.mp hk).1
        simpa using this
      rw [List.getElem?_set_self hlt] at hk
      cases hk
      exact hq q List.mem_cons_self
    · rw [List.getElem?_set_ne (Ne.symm hki)] at hk
      exact h k x hk (by simp [hki, hn])
theorem va_D_map {A : Nat → Prop} {ws ws' : va_W} (hm : ws'.map (·.1) = ws.map (·.1)) (hD : va_D A ws) : va_D A ws' := by
  have key : ∀ (k : Nat) (q : Nat × va_E), ws'[k]? = some q → ∃ q0, ws[k]? = some q0 ∧ q0.1 = q.1 := by
    intro k q hk
    have h1 : (ws'.map (·.1))[k]? = some q.1 := by rw [List.getElem?_map, hk]; rfl
    rw [hm, List.getElem?_map] at h1
    cases h2 : ws[k]? with
    | none => rw [h2] at h1; cases h1
    | some q0 => rw [h2] at h1; exact ⟨q0, rfl, Option.some.inj h1⟩
  refine ⟨fun i j x y hi hj hxy => ?_, fun k q hk => ?_⟩
  · obtain ⟨x0, h1, h2⟩ := key i x hi
    obtain ⟨y0, h3, h4⟩ := key j y hj
    exact hD.1 i j x0 y0 h1 h3 (h2.trans (hxy.trans h4.symm))
  · obtain ⟨q0, h1, h2⟩ := key k q hk
    rw [← h2]
    exact hD.2 k q0 h1
theorem jn_at {is : List Nat} {ws w : va_W} (hs : is.map (fun i => ws[i]?) = w.map some) {k : Nat} {q : Nat × va_E} (hq : w[k]? = some q) : ∃ i, is[k]? = some i ∧ ws[i]? = some q := by
  have h1 : (is.map (fun i => ws[i]?))[k]? = some (some q) := by rw [hs, List.getElem?_map, hq]; rfl
  rw [List.getElem?_map] at h1
  cases hi : is[k]? with
  | none => rw [hi] at h1; cases h1
  | some i => rw [hi] at h1; exact ⟨i, rfl, Option.some.inj h1⟩
theorem jn_set {A0 : Nat → Prop} {D : va_G} {cl : List vw_C} {ws wc w1 : va_W} {H H1 : Heap} (hP : va_P D cl ws H) (hD : va_D A0 ws) (isC : List Nat) (hC : isC.map (fun i => ws[i]?) = wc.map some) (hl : isC.length = w1.length)
    (hk : ∀ q : Nat, q < H.size → ¬ va_A wc H.size q → H1[q]? = H[q]?) (hP1 : va_P D cl w1 H1) : va_P D cl (sA ws isC w1) H1 := by
  refine sA_P isC w1 ws hl (fun k q hq hn => ?_) (fun q hq => ?_)
  · have hat := hP k q hq
    refine hat.kept (hk q.1 hat.lt (fun h => ?_))
    rcases h with ⟨j, e, h⟩ | h
    · obtain ⟨i, h1, h2⟩ := jn_at hC h
      have := hD.1 k i q (q.1, e) hq h2 rfl
      subst this
      exact hn (List.mem_of_getElem? h1)
    · exact absurd hat.lt (by omega)
  · obtain ⟨i, hi⟩ := List.getElem?_of_mem hq
    exact hP1 i q hi
section BASE
variable {p : Program} {l : Launch} {e : Env} {R : Room} {s : State} {m : MethodId} {args : Array Value} {below : List Frame} {meth : Method} {c : Code} {H : Heap} {locs : List Loc} {cells slots : Nat} {Q : State → Prop}
variable {D : va_G} {tys : List (ClassId × FieldType)} {cc bytes : ByteArray} {pc nL maxL n index : Nat} {ls : Array Slot} {rest st As : List Value} {y : MethodName} {ret : Option FieldType} {ws ws' Ts : List Cond} {rm : Room} {own C : String} {b : Nat} {r : Value}
/-- what a body has -/
abbrev Cx (p : Program) (s : State) (m : MethodId) (args : Array Value) (meth : Method) (c : Code) (cc : ByteArray) (ret : Option FieldType) (nL : Nat) (Ts : List Cond) (own : String) : Prop :=
  p.tables.exec = Jvm.exec ∧ c.code = cc ∧ c.maxLocals = nL ∧ s.vm.findClass own = some m.cls ∧ (∀ w ∈ Ts, w.before args s = true) ∧ meth.sig.returnType = ret ∧ meth.locks = false
theorem ro_of {wo : va_W} {as : List Value} (hy : plainName y.cls = true) (hw : ws = Cond.code y cc maxL ret :: ws') (hlen : (lg_sl as).length ≤ maxL)
    (body : ∀ (p : Program) (e : Env) (s : State) (m : MethodId) (below : List Frame) (meth : Method) (c : Code), Cx p s m as.toArray meth c cc ret maxL ws y.cls → va_P D vwCl wo s.heap → va_K D vwCl tys s → ∀ ls : Array Slot, lv_has ls maxL (lv_args 0 as) →
      W p l e rm s m as.toArray below meth c s.heap [] 0 0 (MQ below (k2_QcV r) as.toArray s 0 0 (fun _ => False)) (F0 m 0 ls [])) : RO l y ws rm D tys as wo r := by
  refine Met.ofW (cc := cc) (maxL := maxL) (ret := ret) hy hw ?_
  intro p e s m args below meth c s₁ B hml hv
  obtain ⟨rfl, hP, hK⟩ := hv
  have hl := lv_entry as (n := maxL) hlen
  rw [lg_entry_eq]
  exact body p e s m below meth c ⟨B.exec, B.bytes, hml, findClass_of_methodNamed B.named, atoms_spec (ws := ws) B.pre, B.returns, B.notSynchronized⟩ hP hK _ hl
theorem mu_of {wo w1 : va_W} {as : List Value} {sz : Nat} {r : Option Value} (hy : plainName y.cls = true) (hw : ws = Cond.code y cc maxL ret :: ws') (hlen : (lg_sl as).length ≤ maxL)
    (body : ∀ (p : Program) (e : Env) (s : State) (m : MethodId) (below : List Frame) (meth : Method) (c : Code), Cx p s m as.toArray meth c cc ret maxL ws y.cls → va_K D vwCl tys s → ∀ A : Nat → Prop, (∀ q : Nat, s.heap.size ≤ q → A q) → va_P D vwCl wo s.heap → va_D A wo → va_S A s.heap s.heap [] → ∀ ls : Array Slot, lv_has ls maxL (lv_args 0 as) →
      W p l e rm s m as.toArray below meth c s.heap [] 0 0 (MQ below (mQ r D w1 A) as.toArray s 0 0 A) (F0 m 0 ls [])) : MU l y ws rm D tys as wo sz r w1 := by
  refine Met.ofW (cc := cc) (maxL := maxL) (ret := ret) hy hw ?_
  intro p e s m args below meth c s₁ B hml hv
  obtain ⟨rfl, hsz, hP, hK, hD0⟩ := hv
  subst hsz
  have hl := lv_entry as (n := maxL) hlen
  rw [lg_entry_eq]
  exact body p e s m below meth c ⟨B.exec, B.bytes, hml, findClass_of_methodNamed B.named, atoms_spec (ws := ws) B.pre, B.returns, B.notSynchronized⟩ hK _ (fun q h => Or.inr h) hP (hD0.self (sz := s.heap.size)) va_S.rf _ hl
theorem ro_iret {v r : Int32} {free : Addr → Prop} (X : Cx p s m args meth c cc (some .int) nL Ts own) (hv : v = r) (hdg : decode cc pc = .ok (.ireturn, 1)) : W p l e R s m args below meth c s.heap [] 0 0 (MQ below (k2_QcV (.int r)) args s 0 0 free) (F0 m pc ls [.int v]) := by
  subst hv
  obtain ⟨hx, hb, -, -, -, hr, hlocks⟩ := X
  exact W.iret hx hb hr (fun t ht _ => ⟨rfl, ht⟩) (fun q h => by cases h) hdg hlocks
theorem ro_zret {v : Int32} {b : Bool} {free : Addr → Prop} (X : Cx p s m args meth c cc (some .boolean) nL Ts own) (hv : v = bI b) (hdg : decode cc pc = .ok (.ireturn, 1)) : W p l e R s m args below meth c s.heap [] 0 0 (MQ below (k2_QcV (.int (bI b))) args s 0 0 free) (F0 m pc ls [.int v]) := by
  subst hv
  obtain ⟨hx, hb, -, -, -, hr, hlocks⟩ := X
  exact W.zret hx hb hr (bI_nar b) (fun t ht _ => ⟨rfl, ht⟩) (fun q h => by cases h) hdg hlocks
theorem ro_aret {v : Value} {x : Option Nat} {free : Addr → Prop} {N : String} (X : Cx p s m args meth c cc (some (.object N)) nL Ts own) (hv : v = va_rf x) (hdg : decode cc pc = .ok (.areturn, 1)) : W p l e R s m args below meth c s.heap [] 0 0 (MQ below (k2_QcV (va_rf x)) args s 0 0 free) (F0 m pc ls [v]) := by
  subst hv
  obtain ⟨hx, hb, -, -, -, hr, hlocks⟩ := X
  refine W.aret hx hb hr (Or.inl ⟨N, rfl⟩) ?_ (fun t ht _ => ⟨rfl, ht⟩) (fun q h => by cases h) hdg hlocks
  cases x
  · exact Or.inl rfl
  · exact Or.inr ⟨_, rfl⟩
theorem mu_iret {A : Nat → Prop} {w w1 : va_W} {v r : Int32} (X : Cx p s m args meth c cc (some .int) nL Ts own) (hP : va_P D vwCl w H) (hS : va_S A s.heap H locs) (hv : v = r) (hw : w = w1) (hdg : decode cc pc = .ok (.ireturn, 1)) : W p l e R s m args below meth c H locs 0 0 (MQ below (mQ (some (.int r)) D w1 A) args s 0 0 A) (F0 m pc ls [.int v]) := by
  subst hv; subst hw
  obtain ⟨hx, hb, -, -, -, hr, hlocks⟩ := X
  exact W.iret hx hb hr (fun t ht _ => ⟨rfl, by rw [ht]; exact hP, hS.F ht⟩) hS.2.2 hdg hlocks
theorem mu_zret {A : Nat → Prop} {w w1 : va_W} {v : Int32} {b : Bool} (X : Cx p s m args meth c cc (some .boolean) nL Ts own) (hP : va_P D vwCl w H) (hS : va_S A s.heap H locs) (hv : v = bI b) (hw : w = w1) (hdg : decode cc pc = .ok (.ireturn, 1)) : W p l e R s m args below meth c H locs 0 0 (MQ below (mQ (some (.int (bI b))) D w1 A) args s 0 0 A) (F0 m pc ls [.int v]) := by
  subst hv; subst hw
  obtain ⟨hx, hb, -, -, -, hr, hlocks⟩ := X
  exact W.zret hx hb hr (bI_nar b) (fun t ht _ => ⟨rfl, by rw [ht]; exact hP, hS.F ht⟩) hS.2.2 hdg hlocks
theorem mu_vret {A : Nat → Prop} {w w1 : va_W} (X : Cx p s m args meth c cc none nL Ts own) (hP : va_P D vwCl w H) (hS : va_S A s.heap H locs) (hw : w = w1) (hdg : decode cc pc = .ok (.return_, 1)) : W p l e R s m args below meth c H locs 0 0 (MQ below (mQ none D w1 A) args s 0 0 A) (F0 m pc ls []) := by
  subst hw
  obtain ⟨hx, hb, -, -, -, hr, hlocks⟩ := X
  exact W.vret hx hb hr (fun t ht _ => ⟨rfl, by rw [ht]; exact hP, hS.F ht⟩) hS.2.2 hdg hlocks
/-- a call of a method that only reads -/
theorem ro_V {wo : va_W} (X : Cx p s m args meth c cc ret nL Ts own) (hK : va_K D vwCl tys s) {bret : Option FieldType} (hM : RO l y ws rm D tys (.ref b :: As) wo r) (hT : GoodIn Ts (wsV own index C y ws)) (hw : ws = Cond.code y bytes maxL bret :: ws')
    (hd : y.cls = C ∧ y.cls ≠ "java/lang/invoke/MethodHandle" ∧ y.cls ≠ "java/lang/invoke/VarHandle" ∧ (parseMethodDescriptor y.desc).map (fun d => d.parameters.length) = some n) (hrm : rm.cells = 0 ∧ rm.slots = 0) (hR : rm.frames + 1 ≤ R.frames ∧ 8 + (maxL + 11) + rm.locals ≤ R.locals)
    (hH : va_P D vwCl wo H) (hrv : ∃ cellB : Cell, H[b]? = some cellB ∧ cellB.vm.isStatics = false ∧ s.vm.findClass C = some cellB.cls) (hn : As.length = n) (hsz : ls.size = nL) (hst : st = As.reverse ++ .ref b :: rest) (hW : (rest.map fun v => v.category).sum ≤ 8) (hdg : decode cc pc = .ok (.invokevirtual index, 3)) (hf : cells ≤ R.cells ∧ slots ≤ R.slots)
    (kk : W p l e R s m args below meth c H locs cells slots Q (F0 m (pc + 3) ls (r :: rest))) : W p l e R s m args below meth c H locs cells slots Q (F0 m pc ls st) := by
  subst hst
  obtain ⟨hx, hb, hml, hown, hts, -, -⟩ := X
  exact W.callV (W.runV ⟨hx, hb, hml, hown, hts⟩ hM (cwV n hts hT hw hrm.1 hrm.2 hd hR) ⟨rP_blind, hrv, fun U hU hWm => ⟨rfl, by rw [hU]; exact hH, va_K.moved hWm.alike hK⟩⟩ rfl hn hsz rfl (lv_room hW) hdg ⟨hf.1, hf.2⟩) kk
theorem ro_S {wo : va_W} (X : Cx p s m args meth c cc ret nL Ts own) (hK : va_K D vwCl tys s) {bret : Option FieldType} (hM : RO l y ws rm D tys As wo r) (hT : GoodIn Ts (va_wsS own index y ws)) (hw : ws = Cond.code y bytes maxL bret :: ws')
    (hd : y.cls ≠ "java/lang/invoke/MethodHandle" ∧ y.cls ≠ "java/lang/invoke/VarHandle" ∧ (parseMethodDescriptor y.desc).map (fun d => d.parameters.length) = some n) (hrm : rm.cells = 0 ∧ rm.slots = 0) (hR : rm.frames + 1 ≤ R.frames ∧ 8 + (maxL + 11) + rm.locals ≤ R.locals)
    (hH : va_P D vwCl wo H) (hn : As.length = n) (hsz : ls.size = nL) (hst : st = As.reverse ++ rest) (hW : (rest.map fun v => v.category).sum ≤ 8) (hdg : decode cc pc = .ok (.invokestatic index, 3)) (hf : cells ≤ R.cells ∧ slots ≤ R.slots)
    (kk : W p l e R s m args below meth c H locs cells slots Q (F0 m (pc + 3) ls (r :: rest))) : W p l e R s m args below meth c H locs cells slots Q (F0 m pc ls st) := by
  subst hst
  obtain ⟨hx, hb, hml, hown, hts, -, -⟩ := X
  exact W.callV (W.runS ⟨hx, hb, hml, hown, hts⟩ hM (va_cwS n hts hT hw hrm.1 hrm.2 hd hR) ⟨rP_blind, fun U hU hWm => ⟨rfl, by rw [hU]; exact hH, va_K.moved hWm.alike hK⟩⟩ rfl hn hsz rfl (lv_room hW) hdg ⟨hf.1, hf.2⟩) kk
/-- a call of a method that changes its own cells: they go back to their places -/
theorem mu_V {A0 : Nat → Prop} {ws0 wc w1 : va_W} {ro : Option Value} (X : Cx p s m args meth c cc ret nL Ts own) (hK : va_K D vwCl tys s) {bret : Option FieldType} (hM : MU l y ws rm D tys (.ref b :: As) wc H.size ro w1) (hT : GoodIn Ts (wsV own index C y ws)) (hw : ws = Cond.code y bytes maxL bret :: ws')
    (hd : y.cls = C ∧ y.cls ≠ "java/lang/invoke/MethodHandle" ∧ y.cls ≠ "java/lang/invoke/VarHandle" ∧ (parseMethodDescriptor y.desc).map (fun d => d.parameters.length) = some n) (hrm : rm.cells = 0 ∧ rm.slots = 0) (hR : rm.frames + 1 ≤ R.frames ∧ 8 + (maxL + 11) + rm.locals ≤ R.locals)
    (isC : List Nat) (hnd : va_nd isC = true) (hC : isC.map (fun i => ws0[i]?) = wc.map some) (hl1 : isC.length = w1.length) (hm1 : (sA ws0 isC w1).map (·.1) = ws0.map (·.1)) (hA : ∀ q : Nat, s.heap.size ≤ q → A0 q) (hP : va_P D vwCl ws0 H) (hD : va_D A0 ws0) (hS : va_S A0 s.heap H locs)
    (hrv : ∃ cellB : Cell, H[b]? = some cellB ∧ cellB.vm.isStatics = false ∧ s.vm.findClass C = some cellB.cls) (hn : As.length = n) (hsz : ls.size = nL) (hst : st = As.reverse ++ .ref b :: rest) (hW : (rest.map fun v => v.category).sum ≤ 8) (hdg : decode cc pc = .ok (.invokevirtual index, 3)) (hf : cells ≤ R.cells ∧ slots ≤ R.slots)
    (kk : ∀ (H1 : Heap) (locs1 : List Loc), va_P D vwCl (sA ws0 isC w1) H1 → va_D A0 (sA ws0 isC w1) → va_S A0 s.heap H1 locs1 → W p l e R s m args below meth c H1 locs1 cells slots Q (F0 m (pc + 3) ls (ro.toList ++ rest))) : W p l e R s m args below meth c H locs cells slots Q (F0 m pc ls st) := by
  subst hst
  obtain ⟨hx, hb, hml, hown, hts, -, -⟩ := X
  have hPc : va_P D vwCl wc H := fun k q hk => by
    obtain ⟨i, -, h2⟩ := jn_at hC hk
    exact hP i q h2
  have hDc : va_D A0 wc := hD.sub isC hnd hC
  have hFc := va_free (wc := wc) hD hS hA isC hC
  have hr := va_runV (locs := locs) (cells := cells) (slots := slots) (e := e) (below := below) (meth := meth) (g := F0 m pc ls (As.reverse ++ .ref b :: rest)) ⟨hx, hb, hml, hown, hts⟩ hM (cwV n hts hT hw hrm.1 hrm.2 hd hR) ⟨mP_blind, hrv, fun U hU hWm => ⟨rfl, by rw [hU], by rw [hU]; exact hPc, va_K.moved hWm.alike hK, hDc.weaken (fun _ _ _ _ => trivial)⟩⟩ rfl hn hsz rfl (lv_room hW) hdg ⟨hf.1, hf.2⟩
  intro T hT' X
  obtain ⟨v, st₀, t, T', L, h0, X', hL, e1, e2, ⟨hv, hp, hz, hk⟩, stp⟩ := hr T hT' X
  cases hv
  rw [h0] at hz hk
  have hkH : ∀ q : Nat, q < H.size → ¬ va_A wc H.size q → T'.heap[q]? = H[q]? := fun q h1 h2 => by rw [e1]; exact hk q h1 h2
  obtain ⟨t2, a1, b1⟩ := kk T'.heap (locs ++ L) (jn_set hP hD isC hC hl1 hkH (by rw [e1]; exact hp)) (va_D_map hm1 hD)
    ⟨Nat.le_trans hS.1 (by rw [e1]; exact hz), fun q h1 h2 => by rw [hkH q (Nat.lt_of_lt_of_le h1 hS.1) (fun z => h2 (hFc q z))]; exact hS.2.1 q h1 h2, fun q hq => by
      rcases List.mem_append.mp hq with h | h
      · exact hS.2.2 q h
      · exact hFc _ (hL q h)⟩ T' rfl X'
  exact ⟨t2, stp t2 a1, b1⟩
end BASE
section BASE2
variable {p : Program} {l : Launch} {e : Env} {R : Room} {s : State} {m : MethodId} {args : Array Value} {below : List Frame} {meth : Method} {c : Code} {H : Heap} {locs : List Loc} {cells slots : Nat} {Q : State → Prop} {pc : Nat} {ls : Array Slot} {rest : List Value}
theorem lv_splitq {x : Option Nat} (kn : x = none → W p l e R s m args below meth c H locs cells slots Q (F0 m pc ls (.null :: rest))) (ks : ∀ q : Nat, x = some q → W p l e R s m args below meth c H locs cells slots Q (F0 m pc ls (.ref q :: rest))) : W p l e R s m args below meth c H locs cells slots Q (F0 m pc ls (va_rf x :: rest)) := by
  cases x with
  | none => exact kn rfl
  | some q => exact ks q rfl
theorem ts_case {x : Int32} (k : Int32) (kt : x = k → W p l e R s m args below meth c H locs cells slots Q (F0 m pc ls (.int k :: rest))) (kf : ¬ x = k → W p l e R s m args below meth c H locs cells slots Q (F0 m pc ls (.int x :: rest))) : W p l e R s m args below meth c H locs cells slots Q (F0 m pc ls (.int x :: rest)) := by
  by_cases h : x = k
  · have h1 := kt h
    rw [← h] at h1
    exact h1
  · exact kf h
end BASE2
theorem in_lt {k : Int32} {N : Nat} (h0 : ¬ k < 0) (h1 : ¬ nI N ≤ k) (hN : N < 2 ^ 31) : vp_in k N := by
  rcases pk_ix k hN with h | h | ⟨j, hj, rfl⟩
  · exact absurd h h0
  · exact absurd h h1
  · exact vp_in_nI hj hN
theorem ro_tl {D : va_G} {cl : List vw_C} {ws ws' dy : va_W} {H : Heap} (h : va_P D cl ws H) (is : List Nat) (hs : (is.filterMap (fun i => ws[i]?)) ++ dy = ws') (hd : ∀ q ∈ dy, q ∈ ws := by simp) : va_P D cl ws' H := by
  intro k q hk
  subst hs
  rcases List.mem_append.mp (List.mem_of_getElem? hk) with h1 | h1
  · obtain ⟨i, -, hi⟩ := List.mem_filterMap.mp h1
    exact h i q hi
  · obtain ⟨i, hi⟩ := List.getElem?_of_mem (hd q h1)
    exact h i q hi
theorem lt_nge {k n : Nat} (h : ¬ nI n ≤ nI k) (hk : k ≤ n) (hn : n < 2 ^ 31) : k < n := by
  rcases Nat.lt_or_ge k n with q | q
  · exact q
  · exact absurd (nI_le q (by omega)) h
theorem eq_ge {k n : Nat} (h : nI n ≤ nI k) (hk : k ≤ n) (hn : n < 2 ^ 31) : k = n := by
  rcases Nat.lt_or_ge k n with q | q
  · exact absurd h (nI_ge q hn)
  · omega
section BASE3
variable {p : Program} {l : Launch} {e : Env} {R : Room} {s : State} {m : MethodId} {args : Array Value} {below : List Frame} {meth : Method} {c : Code} {H : Heap} {locs : List Loc} {cells slots : Nat} {Q : State → Prop}
variable {cc : ByteArray} {pc : Nat} {ls : Array Slot} {rest : List Value} {D : va_G} {cl : List vw_C} {A : Nat → Prop} {a : Nat} {tys : List (ClassId × FieldType)} {ws : va_W} {H0 : Heap}
theorem ald_n (hexec : p.tables.exec = Jvm.exec) (hb : c.code = cc) (hK : va_K D cl tys s) (hP : va_P D cl ws H) (q0 t0 : Nat) {cA : ClassId} {n : Nat} {f : Nat → Int32} (ha : ws[q0]? = some (a, .inl (cA, n, .inl f))) (ht : tys[t0]? = some (cA, .int)) {k : Nat} (hk : k < n) (hn : n < 2 ^ 31) (hdg : decode cc pc = .ok (.iaload, 1))
    (kk : W p l e R s m args below meth c H locs cells slots Q (F0 m (pc + 1) ls (.int (f k) :: rest))) : W p l e R s m args below meth c H locs cells slots Q (F0 m pc ls (.int (nI k) :: .ref a :: rest)) := by
  refine va_iald hexec hb hK hP q0 t0 ha ht (vp_in_nI hk hn) hdg ?_
  rw [nI_clamp (show k < 2 ^ 31 by omega)]
  exact kk
theorem ast_n (hexec : p.tables.exec = Jvm.exec) (hb : c.code = cc) (hK : va_K D cl tys s) (hP : va_P D cl ws H) (hD : va_D A ws) (hS : va_S A H0 H locs) (q0 t0 : Nat) {cA : ClassId} {n : Nat} {f : Nat → Int32} (ha : ws[q0]? = some (a, .inl (cA, n, .inl f))) (ht : tys[t0]? = some (cA, .int)) {k : Nat} {x : Int32} (hk : k < n) (hn : n < 2 ^ 31) (hdg : decode cc pc = .ok (.iastore, 1))
    (kk : ∀ (H1 : Heap) (locs1 : List Loc), va_P D cl (ws.set q0 (a, .inl (cA, n, .inl (upd f k x)))) H1 → va_D A (ws.set q0 (a, .inl (cA, n, .inl (upd f k x)))) → va_S A H0 H1 locs1 → W p l e R s m args below meth c H1 locs1 cells slots Q (F0 m (pc + 1) ls rest)) : W p l e R s m args below meth c H locs cells slots Q (F0 m pc ls (.int x :: .int (nI k) :: .ref a :: rest)) := by
  refine va_iast hexec hb hK hP hD hS q0 t0 ha ht (vp_in_nI hk hn) hdg ?_
  rw [nI_clamp (show k < 2 ^ 31 by omega)]
  exact kk
theorem aldq_n (hexec : p.tables.exec = Jvm.exec) (hb : c.code = cc) (hK : va_K D cl tys s) (hP : va_P D cl ws H) (q0 t0 : Nat) {cA : ClassId} {C : String} {n : Nat} {f : Nat → Option Nat} (ha : ws[q0]? = some (a, .inl (cA, n, .inr (.inr (.inr (.inr f)))))) (ht : tys[t0]? = some (cA, .object C)) {k : Nat} (hk : k < n) (hn : n < 2 ^ 31) (hdg : decode cc pc = .ok (.aaload, 1))
    (kk : W p l e R s m args below meth c H locs cells slots Q (F0 m (pc + 1) ls (va_rf (f k) :: rest))) : W p l e R s m args below meth c H locs cells slots Q (F0 m pc ls (.int (nI k) :: .ref a :: rest)) := by
  refine va_aldq hexec hb hK hP q0 t0 ha ht (vp_in_nI hk hn) hdg ?_
  rw [nI_clamp (show k < 2 ^ 31 by omega)]
  exact kk
theorem topi_eq {x y : Int32} (h : x = y) (k : W p l e R s m args below meth c H locs cells slots Q (F0 m pc ls (.int y :: rest))) : W p l e R s m args below meth c H locs cells slots Q (F0 m pc ls (.int x :: rest)) := by
  rw [h]; exact k
end BASE3
theorem jn_tail {A0 : Nat → Prop} {D : va_G} {cl : List vw_C} {fx fc f1 dy : va_W} {H H1 : Heap} (hP : va_P D cl (fx ++ dy) H) (hD : va_D A0 (fx ++ dy)) (isC : List Nat) (hC : isC.map (fun i => fx[i]?) = fc.map some) (hl : isC.length = f1.length)
    (hk : ∀ q : Nat, q < H.size → ¬ va_A (fc ++ dy) H.size q → H1[q]? = H[q]?) (hP1 : va_P D cl (f1 ++ dy) H1) : va_P D cl (sA fx isC f1 ++ dy) H1 := by
  have at1 : ∀ q ∈ f1 ++ dy, va_at D cl q H1 := fun q hq => by
    obtain ⟨i, hi⟩ := List.getElem?_of_mem hq
    exact hP1 i q hi
  refine va_P.app (sA_P isC f1 fx hl (fun k q hq hn => ?_) (fun q hq => at1 q (List.mem_append_left _ hq))) (fun k q hq => at1 q (List.mem_append_right _ (List.mem_of_getElem? hq)))
  have hkl : k < fx.length := (List.getElem?_eq_some_iff.mp hq).1
  have hq' : (fx ++ dy)[k]? = some q := by rw [List.getElem?_append_left hkl]; exact hq
  have hat := hP k q hq'
  refine hat.kept (hk q.1 hat.lt (fun h => ?_))
  rcases h with ⟨j, e, h⟩ | h
  · rcases List.mem_append.mp (List.mem_of_getElem? h) with h1 | h1
    · obtain ⟨j', hj'⟩ := List.getElem?_of_mem h1
      obtain ⟨i, h2, h3⟩ := jn_at hC hj'
      have hil : i < fx.length := (List.getElem?_eq_some_iff.mp h3).1
      have := hD.1 k i q (q.1, e) hq' (by rw [List.getElem?_append_left hil]; exact h3) rfl
      subst this
      exact hn (List.mem_of_getElem? h2)
    · obtain ⟨j', hj'⟩ := List.getElem?_of_mem h1
      have := hD.1 k (fx.length + j') q (q.1, e) hq' (by rw [List.getElem?_append_right (by omega)]; rw [show fx.length + j' - fx.length = j' by omega]; exact hj') rfl
      omega
  · exact absurd hat.lt (by omega)
section BASE5
variable {p : Program} {l : Launch} {e : Env} {R : Room} {s : State} {m : MethodId} {args : Array Value} {below : List Frame} {meth : Method} {c : Code} {H : Heap} {locs : List Loc} {cells slots : Nat} {Q : State → Prop}
variable {D : va_G} {tys : List (ClassId × FieldType)} {cc bytes : ByteArray} {pc nL maxL n index : Nat} {ls : Array Slot} {rest st As : List Value} {y : MethodName} {ret : Option FieldType} {ws ws' Ts : List Cond} {rm : Room} {own C : String} {b : Nat}
theorem rf_eq {x : Option Nat} {q : Nat} (h : x = some q) (k : W p l e R s m args below meth c H locs cells slots Q (F0 m pc ls (.ref q :: rest))) : W p l e R s m args below meth c H locs cells slots Q (F0 m pc ls (va_rf x :: rest)) := by
  subst h; exact k
theorem rf_eqN {x : Option Nat} (h : x = none) (k : W p l e R s m args below meth c H locs cells slots Q (F0 m pc ls (.null :: rest))) : W p l e R s m args below meth c H locs cells slots Q (F0 m pc ls (va_rf x :: rest)) := by
  subst h; exact k
/-- the same, where the callee has the cells dy too -/
theorem mu_VT {A0 : Nat → Prop} {dy : va_W} {ro : Option Value} (fx fc f1 : va_W) (X : Cx p s m args meth c cc ret nL Ts own) (hK : va_K D vwCl tys s) {bret : Option FieldType} (hM : MU l y ws rm D tys (.ref b :: As) (fc ++ dy) H.size ro (f1 ++ dy)) (hT : GoodIn Ts (wsV own index C y ws)) (hw : ws = Cond.code y bytes maxL bret :: ws')
    (hd : y.cls = C ∧ y.cls ≠ "java/lang/invoke/MethodHandle" ∧ y.cls ≠ "java/lang/invoke/VarHandle" ∧ (parseMethodDescriptor y.desc).map (fun d => d.parameters.length) = some n) (hrm : rm.cells = 0 ∧ rm.slots = 0) (hR : rm.frames + 1 ≤ R.frames ∧ 8 + (maxL + 11) + rm.locals ≤ R.locals)
    (isC : List Nat) (hnd : va_nd isC = true) (hC : isC.map (fun i => fx[i]?) = fc.map some) (hl1 : isC.length = f1.length) (hm1 : (sA fx isC f1).map (·.1) = fx.map (·.1)) (hA : ∀ q : Nat, s.heap.size ≤ q → A0 q) (hP : va_P D vwCl (fx ++ dy) H) (hD : va_D A0 (fx ++ dy)) (hS : va_S A0 s.heap H locs)
    (hrv : ∃ cellB : Cell, H[b]? = some cellB ∧ cellB.vm.isStatics = false ∧ s.vm.findClass C = some cellB.cls) (hn : As.length = n) (hsz : ls.size = nL) (hst : st = As.reverse ++ .ref b :: rest) (hW : (rest.map fun v => v.category).sum ≤ 8) (hdg : decode cc pc = .ok (.invokevirtual index, 3)) (hf : cells ≤ R.cells ∧ slots ≤ R.slots)
    (kk : ∀ (H1 : Heap) (locs1 : List Loc), va_P D vwCl (sA fx isC f1 ++ dy) H1 → va_D A0 (sA fx isC f1 ++ dy) → va_S A0 s.heap H1 locs1 → W p l e R s m args below meth c H1 locs1 cells slots Q (F0 m (pc + 3) ls (ro.toList ++ rest))) : W p l e R s m args below meth c H locs cells slots Q (F0 m pc ls st) := by
  subst hst
  obtain ⟨hx, hb, hml, hown, hts, -, -⟩ := X
  have inj : ∀ (k : Nat) (q : Nat × va_E), (fc ++ dy)[k]? = some q → (∃ j i, k = j ∧ j < fc.length ∧ isC[j]? = some i ∧ i < fx.length ∧ (fx ++ dy)[i]? = some q) ∨ ∃ j, k = fc.length + j ∧ (fx ++ dy)[fx.length + j]? = some q := by
    intro k q hk
    by_cases hkl : k < fc.length
    · rw [List.getElem?_append_left hkl] at hk
      obtain ⟨i, h2, h3⟩ := jn_at hC hk
      have hil : i < fx.length := (List.getElem?_eq_some_iff.mp h3).1
      exact Or.inl ⟨k, i, rfl, hkl, h2, hil, by rw [List.getElem?_append_left hil]; exact h3⟩
    · rw [List.getElem?_append_right (by omega)] at hk
      exact Or.inr ⟨k - fc.length, by omega, by rw [List.getElem?_append_right (by omega), show fx.length + (k - fc.length) - fx.length = k - fc.length by omega]; exact hk⟩
  have hPc : va_P D vwCl (fc ++ dy) H := fun k q hk => by
    rcases inj k q hk with ⟨j, i, -, -, -, -, h⟩ | ⟨j, -, h⟩
    · exact hP _ q h
    · exact hP _ q h
  have hDc : va_D A0 (fc ++ dy) := by
    refine ⟨fun i j x y hi hj hxy => ?_, fun k q hk => ?_⟩
    · rcases inj i x hi with ⟨j1, i1, e1, l1, g1, l1', h1⟩ | ⟨j1, e1, h1⟩ <;> rcases inj j y hj with ⟨j2, i2, e2, l2, g2, l2', h2⟩ | ⟨j2, e2, h2⟩
      · have := hD.1 i1 i2 x y h1 h2 hxy
        subst this
        have := va_nd_inj isC hnd j1 j2 i1 g1 g2
        omega
      · have := hD.1 i1 _ x y h1 h2 hxy; omega
      · have := hD.1 _ i2 x y h1 h2 hxy; omega
      · have := hD.1 _ _ x y h1 h2 hxy; omega
    · rcases inj k q hk with ⟨j, i, -, -, -, -, h⟩ | ⟨j, -, h⟩
      · exact hD.2 _ q h
      · exact hD.2 _ q h
  have hFc : ∀ q, va_A (fc ++ dy) H.size q → A0 q := by
    intro q h
    rcases h with ⟨k, e, h⟩ | h
    · exact hDc.2 k (q, e) h
    · exact hA q (Nat.le_trans hS.1 h)
  have hr := va_runV (locs := locs) (cells := cells) (slots := slots) (e := e) (below := below) (meth := meth) (g := F0 m pc ls (As.reverse ++ .ref b :: rest)) ⟨hx, hb, hml, hown, hts⟩ hM (cwV n hts hT hw hrm.1 hrm.2 hd hR) ⟨mP_blind, hrv, fun U hU hWm => ⟨rfl, by rw [hU], by rw [hU]; exact hPc, va_K.moved hWm.alike hK, hDc.weaken (fun _ _ _ _ => trivial)⟩⟩ rfl hn hsz rfl (lv_room hW) hdg ⟨hf.1, hf.2⟩
  intro T hT' X
  obtain ⟨v, st₀, t, T', L, h0, X', hL, e1, e2, ⟨hv, hp, hz, hk⟩, stp⟩ := hr T hT' X
  cases hv
  rw [h0] at hz hk
  have hkH : ∀ q : Nat, q < H.size → ¬ va_A (fc ++ dy) H.size q → T'.heap[q]? = H[q]? := fun q h1 h2 => by rw [e1]; exact hk q h1 h2
  obtain ⟨t2, a1, b1⟩ := kk T'.heap (locs ++ L) (jn_tail hP hD isC hC hl1 hkH (by rw [e1]; exact hp)) (va_D_map (by rw [List.map_append, List.map_append, hm1]) hD)
    ⟨Nat.le_trans hS.1 (by rw [e1]; exact hz), fun q h1 h2 => by rw [hkH q (Nat.lt_of_lt_of_le h1 hS.1) (fun z => h2 (hFc q z))]; exact hS.2.1 q h1 h2, fun q hq => by
      rcases List.mem_append.mp hq with h | h
      · exact hS.2.2 q h
      · exact hFc _ (hL q h)⟩ T' rfl X'
  exact ⟨t2, stp t2 a1, b1⟩
end BASE5
