/-! cells in front of a tail of any length; what the law needs of calls over them -/
def tlI : Nat → Nat → List Nat
  | _, 0 => []
  | n, d + 1 => n :: tlI (n + 1) d
theorem tlI_ge : ∀ (d n x : Nat), x ∈ tlI n d → n ≤ x
  | 0, n, x, h => by simp [tlI] at h
  | d + 1, n, x, h => by
    rcases List.mem_cons.mp h with e | e
    · omega
    · have := tlI_ge d (n + 1) x e
      omega
theorem tlI_nd : ∀ (d n : Nat), va_nd (tlI n d) = true
  | 0, n => rfl
  | d + 1, n => by
    have h1 : n ∉ tlI (n + 1) d := fun h => by
      have := tlI_ge d (n + 1) n h
      omega
    simp [tlI, va_nd, h1, tlI_nd d (n + 1)]
theorem tl_nd : ∀ (is : List Nat) (n d : Nat), va_nd is = true → (∀ i ∈ is, i < n) → va_nd (is ++ tlI n d) = true
  | [], n, d, _, _ => tlI_nd d n
  | i :: is, n, d, h, hl => by
    simp only [va_nd, Bool.and_eq_true, decide_eq_true_eq] at h
    have h1 : i ∉ is ++ tlI n d := fun q => by
      rcases List.mem_append.mp q with e | e
      · exact h.1 e
      · have := tlI_ge d n i e
        have := hl i List.mem_cons_self
        omega
    simp [va_nd, h1, tl_nd is n d h.2 (fun j hj => hl j (List.mem_cons_of_mem _ hj))]
theorem tlI_C : ∀ (dy fx : va_W), (tlI fx.length dy.length).map (fun i => (fx ++ dy)[i]?) = dy.map some
  | [], fx => rfl
  | q :: dy, fx => by
    have h := tlI_C dy (fx ++ [q])
    simp only [List.length_append, List.length_cons, List.length_nil, List.append_assoc, List.cons_append, List.nil_append, Nat.zero_add] at h
    simp only [List.length_cons, tlI, List.map_cons]
    rw [h]
    simp
theorem tl_lt {fx fc : va_W} {is : List Nat} (h : is.map (fun i => fx[i]?) = fc.map some) : ∀ i ∈ is, i < fx.length := by
  intro i hi
  have h1 : fx[i]? ∈ is.map (fun i => fx[i]?) := List.mem_map.mpr ⟨i, hi, rfl⟩
  rw [h] at h1
  obtain ⟨q, -, hq⟩ := List.mem_map.mp h1
  exact (List.getElem?_eq_some_iff.mp hq.symm).1
theorem tl_C {fx fc dy : va_W} {is : List Nat} (h : is.map (fun i => fx[i]?) = fc.map some) : (is ++ tlI fx.length dy.length).map (fun i => (fx ++ dy)[i]?) = (fc ++ dy).map some := by
  rw [List.map_append, List.map_append, tlI_C dy fx, ← h]
  congr 1
  refine List.map_congr_left (fun i hi => ?_)
  rw [List.getElem?_append_left (tl_lt h i hi)]
theorem tlI_sA : ∀ (dy dy' fx : va_W), dy'.length = dy.length → sA (fx ++ dy) (tlI fx.length dy.length) dy' = fx ++ dy'
  | [], [], fx, _ => by simp [tlI, sA]
  | [], q :: dy', fx, h => by simp at h
  | q :: dy, [], fx, h => by simp at h
  | q :: dy, q' :: dy', fx, h => by
    have h1 := tlI_sA dy dy' (fx ++ [q']) (by simpa using h)
    simp only [List.length_append, List.length_cons, List.length_nil, List.append_assoc, List.cons_append, List.nil_append, Nat.zero_add] at h1
    simp only [List.length_cons, tlI, sA]
    rw [List.set_append_right _ _ (Nat.le_refl _), Nat.sub_self]
    exact h1
theorem tl_sA {dy dy' : va_W} (hd : dy'.length = dy.length) : ∀ (is : List Nat) (f1 fx : va_W), is.length = f1.length → (∀ i ∈ is, i < fx.length) → sA (fx ++ dy) (is ++ tlI fx.length dy.length) (f1 ++ dy') = sA fx is f1 ++ dy'
  | [], [], fx, _, _ => tlI_sA dy dy' fx hd
  | [], q :: f1, fx, h, _ => by simp at h
  | i :: is, [], fx, h, _ => by simp at h
  | i :: is, q :: f1, fx, h, hl => by
    have h1 := tl_sA hd is f1 (fx.set i q) (by simpa using h) (fun j hj => by rw [List.length_set]; exact hl j (List.mem_cons_of_mem _ hj))
    rw [List.length_set] at h1
    simp only [List.cons_append, sA]
    rw [List.set_append_left _ _ (hl i List.mem_cons_self)]
    exact h1
theorem tl_len {dy dy' : va_W} (h : dy'.map (·.1) = dy.map (·.1)) : dy'.length = dy.length := by
  have := congrArg List.length h
  simpa using this
theorem pm_D {A : Nat → Prop} {fx fc dy : va_W} (hD : va_D A (fx ++ dy)) (is : List Nat) (hnd : va_nd is = true) (hC : is.map (fun i => fx[i]?) = fc.map some) : va_D A (fc ++ dy) := hD.sub (is ++ tlI fx.length dy.length) (tl_nd is _ _ hnd (tl_lt hC)) (tl_C hC)
theorem pm_P {D : va_G} {cl : List vw_C} {H : Heap} {fx fc dy : va_W} (hP : va_P D cl (fx ++ dy) H) (is : List Nat) (hC : is.map (fun i => fx[i]?) = fc.map some) : va_P D cl (fc ++ dy) H := fun k q hk => by
  obtain ⟨i, -, h2⟩ := jn_at (tl_C (dy := dy) hC) hk
  exact hP i q h2
section LAWB
variable {p : Program} {l : Launch} {e : Env} {R : Room} {s : State} {m : MethodId} {args : Array Value} {below : List Frame} {meth : Method} {c : Code} {H : Heap} {locs : List Loc} {cells slots : Nat} {Q : State → Prop}
variable {D : va_G} {tys : List (ClassId × FieldType)} {cc bytes : ByteArray} {pc nL maxL n index mc ms : Nat} {ls : Array Slot} {rest st As : List Value} {y : MethodName} {ret : Option FieldType} {ws ws' Ts : List Cond} {rm : Room} {own C : String} {b : Nat}
theorem mu_VD {A0 : Nat → Prop} {dy dy' : va_W} {ro : Option Value} (fx fc f1 : va_W) (X : Cx p s m args meth c cc ret nL Ts own) (hK : va_K D vwCl tys s) {bret : Option FieldType} (hM : MU l y ws rm D tys (.ref b :: As) (fc ++ dy) H.size ro (f1 ++ dy')) (hT : GoodIn Ts (wsV own index C y ws)) (hw : ws = Cond.code y bytes maxL bret :: ws')
    (hd : y.cls = C ∧ y.cls ≠ "java/lang/invoke/MethodHandle" ∧ y.cls ≠ "java/lang/invoke/VarHandle" ∧ (parseMethodDescriptor y.desc).map (fun d => d.parameters.length) = some n) (hrm : rm.cells = 0 ∧ rm.slots = 0) (hR : rm.frames + 1 ≤ R.frames ∧ 8 + (maxL + 11) + rm.locals ≤ R.locals)
    (isC : List Nat) (hnd : va_nd isC = true) (hC : isC.map (fun i => fx[i]?) = fc.map some) (hl1 : isC.length = f1.length) (hm1 : (sA fx isC f1).map (·.1) = fx.map (·.1)) (hdy : dy'.map (·.1) = dy.map (·.1)) (hA : ∀ q : Nat, s.heap.size ≤ q → A0 q) (hP : va_P D vwCl (fx ++ dy) H) (hD : va_D A0 (fx ++ dy)) (hS : va_S A0 s.heap H locs)
    (hrv : ∃ cellB : Cell, H[b]? = some cellB ∧ cellB.vm.isStatics = false ∧ s.vm.findClass C = some cellB.cls) (hn : As.length = n) (hsz : ls.size = nL) (hst : st = As.reverse ++ .ref b :: rest) (hW : (rest.map fun v => v.category).sum ≤ 8) (hdg : decode cc pc = .ok (.invokevirtual index, 3)) (hf : cells ≤ R.cells ∧ slots ≤ R.slots)
    (kk : ∀ (H1 : Heap) (locs1 : List Loc), va_P D vwCl (sA fx isC f1 ++ dy') H1 → va_D A0 (sA fx isC f1 ++ dy') → va_S A0 s.heap H1 locs1 → W p l e R s m args below meth c H1 locs1 cells slots Q (F0 m (pc + 3) ls (ro.toList ++ rest))) : W p l e R s m args below meth c H locs cells slots Q (F0 m pc ls st) := by
  have e1 := tl_sA (tl_len hdy) isC f1 fx hl1 (tl_lt hC)
  refine mu_V X hK hM hT hw hd hrm hR (isC ++ tlI fx.length dy.length) (tl_nd isC _ _ hnd (tl_lt hC)) (tl_C hC) ?_ ?_ hA hP hD hS hrv hn hsz hst hW hdg hf ?_
  · have h1 := congrArg List.length (tlI_C dy fx)
    simp only [List.length_map] at h1
    rw [List.length_append, List.length_append, hl1, h1, tl_len hdy]
  · rw [e1, List.map_append, List.map_append, hm1, hdy]
  · intro H1 locs1 h1 h2 h3
    rw [e1] at h1 h2
    exact kk H1 locs1 h1 h2 h3
theorem nu_VD {S : Type} {r : S → Option Value} {A0 : Nat → Prop} {dy : va_W} (fx fc : va_W) (f1 nw : S → va_W) (X : Cx p s m args meth c cc ret nL Ts own) (hK : va_K D vwCl tys s) (hE : xE s) {bret : Option FieldType} (hM : NU l y ws rm D tys (.ref b :: As) (fc ++ dy) H.size r (fun u => (f1 u ++ dy) ++ nw u) mc ms) (hT : GoodIn Ts (wsV own index C y ws)) (hw : ws = Cond.code y bytes maxL bret :: ws')
    (hd : y.cls = C ∧ y.cls ≠ "java/lang/invoke/MethodHandle" ∧ y.cls ≠ "java/lang/invoke/VarHandle" ∧ (parseMethodDescriptor y.desc).map (fun d => d.parameters.length) = some n) (hrm : rm.cells = mc ∧ rm.slots = ms) (hR : rm.frames + 1 ≤ R.frames ∧ 8 + (maxL + 11) + rm.locals ≤ R.locals)
    (isC : List Nat) (hnd : va_nd isC = true) (hC : isC.map (fun i => fx[i]?) = fc.map some) (hl1 : ∀ u, isC.length = (f1 u).length) (hm1 : ∀ u, (f1 u).map (·.1) = fc.map (·.1)) (hm2 : ∀ u, (sA fx isC (f1 u)).map (·.1) = fx.map (·.1)) (hA : ∀ q : Nat, s.heap.size ≤ q → A0 q) (hP : va_P D vwCl (fx ++ dy) H) (hD : va_D A0 (fx ++ dy)) (hS : va_S A0 s.heap H locs)
    (hrv : ∃ cellB : Cell, H[b]? = some cellB ∧ cellB.vm.isStatics = false ∧ s.vm.findClass C = some cellB.cls) (hn : As.length = n) (hsz : ls.size = nL) (hst : st = As.reverse ++ .ref b :: rest) (hW : (rest.map fun v => v.category).sum ≤ 8) (hdg : decode cc pc = .ok (.invokevirtual index, 3)) (hf : cells + mc ≤ R.cells ∧ slots + ms ≤ R.slots)
    (kk : ∀ (u : S) (H1 : Heap) (locs1 : List Loc), va_P D vwCl (nw u ++ (sA fx isC (f1 u) ++ dy)) H1 → va_D A0 (nw u ++ (sA fx isC (f1 u) ++ dy)) → va_S A0 s.heap H1 locs1 → W p l e R s m args below meth c H1 locs1 (cells + mc) (slots + ms) Q (F0 m (pc + 3) ls ((r u).toList ++ rest))) : W p l e R s m args below meth c H locs cells slots Q (F0 m pc ls st) := by
  have e1 := fun u => tl_sA (dy := dy) (dy' := dy) rfl isC (f1 u) fx (hl1 u) (tl_lt hC)
  have h1 := congrArg List.length (tlI_C dy fx)
  simp only [List.length_map] at h1
  refine nu_V (fc := fc ++ dy) (f1 := fun u => f1 u ++ dy) (nw := nw) X hK hE hM hT hw hd hrm hR (isC ++ tlI fx.length dy.length) (tl_nd isC _ _ hnd (tl_lt hC)) (tl_C hC) (fun u => by rw [List.length_append, List.length_append, hl1 u, h1]) (fun u => by rw [List.map_append, List.map_append, hm1 u]) (fun u => by rw [e1 u, List.map_append, List.map_append, hm2 u]) hA hP hD hS hrv hn hsz hst hW hdg hf ?_
  intro u H1 locs1 g1 g2 g3
  rw [e1 u] at g1 g2
  exact kk u H1 locs1 g1 g2 g3
/-- a script's int comes onto the stack -/
theorem scr_n {A : Nat → Prop} {L i j : Nat} {xs : Nat → Int32} {jj : Int} {x0 m0 : Nat} (hx : p.tables.exec = Jvm.exec) (hb : c.code = cc) (hX : va_X b L xs s s.heap) (hbl : b < s.heap.size) (hbA : ¬ A b) (hS : va_S A s.heap H locs) (hL : L ≤ 2049) (hl : lv_has ls 4 [(0, .ref b), (1, .ref x0), (2, .ref m0), (3, .int (nI i))]) (hj : Int32.ofInt jj = nI j) (hi : i + j < L)
    (d0 : decode cc pc = .ok (.aload_n 0, 1)) (d1 : decode cc (pc + 1) = .ok (.iload_n 3, 1)) (d2 : decode cc (pc + 2) = .ok (.iconst jj, 1)) (d3 : decode cc (pc + 3) = .ok (.iadd, 1)) (d4 : decode cc (pc + 4) = .ok (.iaload, 1))
    (kk : W p l e R s m args below meth c H locs cells slots Q (F0 m (pc + 5) ls (.int (xs (i + j)) :: rest))) : W p l e R s m args below meth c H locs cells slots Q (F0 m pc ls rest) := by
  refine lv_aload_n hx hb d0 rfl (lv_at hl 0 rfl) ?_
  refine lv_iload_n hx hb d1 rfl (lv_at hl 3 rfl) ?_
  refine lv_iconst (v := nI j) hx hb d2 hj ?_
  refine lv_iadd hx hb d3 ?_
  refine topi_eq (nI_add i j) ?_
  refine va_sld hx hb hX hbl hbA hS (vp_in_nI hi (by omega)) d4 ?_
  rw [nI_clamp (show i + j < 2 ^ 31 by omega)]
  exact kk
end LAWB
