/-! a call that changes many cells: the addresses stay, said of the callee's cells alone -/
theorem set_same {α : Type} {l : List α} {i : Nat} {a : α} (h : l[i]? = some a) : l.set i a = l := by
  obtain ⟨hlt, he⟩ := List.getElem?_eq_some_iff.mp h
  rw [← he, List.set_getElem_self]
theorem sA_map : ∀ (is : List Nat) (qs ws : va_W), is.map (fun i => (ws.map (·.1))[i]?) = qs.map (fun q => some q.1) → (sA ws is qs).map (·.1) = ws.map (·.1)
  | [], [], _, _ => rfl
  | [], _ :: _, _, _ => rfl
  | _ :: _, [], _, _ => rfl
  | i :: is, q :: qs, ws, h => by
    simp only [List.map_cons, List.cons.injEq] at h
    have e : (ws.set i q).map (·.1) = ws.map (·.1) := by
      rw [List.map_set]
      exact set_same h.1
    rw [sA, sA_map is qs (ws.set i q) (by rw [e]; exact h.2), e]
theorem sA_same {is : List Nat} {fx fc f1 : va_W} (hC : is.map (fun i => fx[i]?) = fc.map some) (hm : f1.map (·.1) = fc.map (·.1)) : (sA fx is f1).map (·.1) = fx.map (·.1) := by
  refine sA_map is f1 fx ?_
  have h1 : is.map (fun i => (fx.map (·.1))[i]?) = (is.map (fun i => fx[i]?)).map (Option.map (·.1)) := by
    rw [List.map_map]
    refine List.map_congr_left (fun i _ => ?_)
    simp only [List.getElem?_map, Function.comp]
  have h2 : f1.map (fun q => some q.1) = (f1.map (·.1)).map some := by rw [List.map_map]; rfl
  rw [h1, hC, h2, hm, List.map_map, List.map_map]
  rfl
section
variable {p : Program} {l : Launch} {e : Env} {R : Room} {s : State} {m : MethodId} {args : Array Value} {below : List Frame} {meth : Method} {c : Code} {H : Heap} {locs : List Loc} {cells slots : Nat} {Q : State → Prop}
variable {D : va_G} {tys : List (ClassId × FieldType)} {cc bytes : ByteArray} {pc nL maxL n index mc ms : Nat} {ls : Array Slot} {rest st As : List Value} {y : MethodName} {ret : Option FieldType} {ws ws' Ts : List Cond} {rm : Room} {own C : String} {b : Nat}
theorem mu_VE {A0 : Nat → Prop} {dy dy' : va_W} {ro : Option Value} {fy : va_W} (fx fc f1 : va_W) (X : Cx p s m args meth c cc ret nL Ts own) (hK : va_K D vwCl tys s) {bret : Option FieldType} (hM : MU l y ws rm D tys (.ref b :: As) (fc ++ dy) H.size ro (f1 ++ dy')) (hT : GoodIn Ts (wsV own index C y ws)) (hw : ws = Cond.code y bytes maxL bret :: ws')
    (hd : y.cls = C ∧ y.cls ≠ "java/lang/invoke/MethodHandle" ∧ y.cls ≠ "java/lang/invoke/VarHandle" ∧ (parseMethodDescriptor y.desc).map (fun d => d.parameters.length) = some n) (hrm : rm.cells = 0 ∧ rm.slots = 0) (hR : rm.frames + 1 ≤ R.frames ∧ 8 + (maxL + 11) + rm.locals ≤ R.locals)
    (isC : List Nat) (hnd : va_nd isC = true) (hC : isC.map (fun i => fx[i]?) = fc.map some) (hy : sA fx isC f1 = fy) (hl1 : isC.length = f1.length) (hm : f1.map (·.1) = fc.map (·.1)) (hdy : dy'.map (·.1) = dy.map (·.1)) (hA : ∀ q : Nat, s.heap.size ≤ q → A0 q) (hP : va_P D vwCl (fx ++ dy) H) (hD : va_D A0 (fx ++ dy)) (hS : va_S A0 s.heap H locs)
    (hrv : ∃ cellB : Cell, H[b]? = some cellB ∧ cellB.vm.isStatics = false ∧ s.vm.findClass C = some cellB.cls) (hn : As.length = n) (hsz : ls.size = nL) (hst : st = As.reverse ++ .ref b :: rest) (hW : (rest.map fun v => v.category).sum ≤ 8) (hdg : decode cc pc = .ok (.invokevirtual index, 3)) (hf : cells ≤ R.cells ∧ slots ≤ R.slots)
    (kk : ∀ (H1 : Heap) (locs1 : List Loc), va_P D vwCl (fy ++ dy') H1 → va_D A0 (fy ++ dy') → va_S A0 s.heap H1 locs1 → W p l e R s m args below meth c H1 locs1 cells slots Q (F0 m (pc + 3) ls (ro.toList ++ rest))) : W p l e R s m args below meth c H locs cells slots Q (F0 m pc ls st) := by
  subst hy
  exact mu_VD fx fc f1 X hK hM hT hw hd hrm hR isC hnd hC hl1 (sA_same hC hm) hdy hA hP hD hS hrv hn hsz hst hW hdg hf kk
theorem mu_VF {A0 : Nat → Prop} {ws0 wc w1 : va_W} {ro : Option Value} {fy : va_W} (X : Cx p s m args meth c cc ret nL Ts own) (hK : va_K D vwCl tys s) {bret : Option FieldType} (hM : MU l y ws rm D tys (.ref b :: As) wc H.size ro w1) (hT : GoodIn Ts (wsV own index C y ws)) (hw : ws = Cond.code y bytes maxL bret :: ws')
    (hd : y.cls = C ∧ y.cls ≠ "java/lang/invoke/MethodHandle" ∧ y.cls ≠ "java/lang/invoke/VarHandle" ∧ (parseMethodDescriptor y.desc).map (fun d => d.parameters.length) = some n) (hrm : rm.cells = 0 ∧ rm.slots = 0) (hR : rm.frames + 1 ≤ R.frames ∧ 8 + (maxL + 11) + rm.locals ≤ R.locals)
    (isC : List Nat) (hnd : va_nd isC = true) (hC : isC.map (fun i => ws0[i]?) = wc.map some) (hy : sA ws0 isC w1 = fy) (hl1 : isC.length = w1.length) (hm : w1.map (·.1) = wc.map (·.1)) (hA : ∀ q : Nat, s.heap.size ≤ q → A0 q) (hP : va_P D vwCl ws0 H) (hD : va_D A0 ws0) (hS : va_S A0 s.heap H locs)
    (hrv : ∃ cellB : Cell, H[b]? = some cellB ∧ cellB.vm.isStatics = false ∧ s.vm.findClass C = some cellB.cls) (hn : As.length = n) (hsz : ls.size = nL) (hst : st = As.reverse ++ .ref b :: rest) (hW : (rest.map fun v => v.category).sum ≤ 8) (hdg : decode cc pc = .ok (.invokevirtual index, 3)) (hf : cells ≤ R.cells ∧ slots ≤ R.slots)
    (kk : ∀ (H1 : Heap) (locs1 : List Loc), va_P D vwCl fy H1 → va_D A0 fy → va_S A0 s.heap H1 locs1 → W p l e R s m args below meth c H1 locs1 cells slots Q (F0 m (pc + 3) ls (ro.toList ++ rest))) : W p l e R s m args below meth c H locs cells slots Q (F0 m pc ls st) := by
  subst hy
  exact mu_V X hK hM hT hw hd hrm hR isC hnd hC hl1 (sA_same hC hm) hA hP hD hS hrv hn hsz hst hW hdg hf kk
end
