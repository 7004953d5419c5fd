/-! how the two sides stay alike when a word or a join is written or made -/
def up2 (z : Nat → Nat → Int32) (j k : Nat) (v : Int32) : Nat → Nat → Int32 := fun i q => if i = j then (if q = k then v else z i q) else z i q
def upF (F : Nat → Nat → Int32) (k : Nat) (f : Nat → Int32) : Nat → Nat → Int32 := fun i => if i = k then f else F i
def exF {α : Type} (f : Nat → α) (n : Nat) (v : α) : Nat → α := fun i => if i = n then v else f i
theorem exF_eq {α : Type} {f : Nat → α} {n : Nat} {v : α} : exF f n v n = v := by simp [exF]
theorem exF_ne {α : Type} {f : Nat → α} {n i : Nat} {v : α} (h : ¬ i = n) : exF f n v i = f i := by simp [exF, h]
theorem va_D_nd {A : Nat → Prop} {ws : va_W} : va_D A ws ↔ (ws.map (·.1)).Nodup ∧ ∀ q ∈ ws, A q.1 := by
  constructor
  · intro h
    refine ⟨?_, fun q hq => ?_⟩
    · rw [List.Nodup, List.pairwise_iff_getElem]
      intro i j hi hj hij he
      rw [List.length_map] at hi hj
      simp only [List.getElem_map] at he
      have := h.1 i j ws[i] ws[j] (List.getElem?_eq_getElem hi) (List.getElem?_eq_getElem hj) he
      omega
    · obtain ⟨i, hi⟩ := List.getElem?_of_mem hq
      exact h.2 i q hi
  · intro h
    refine ⟨fun i j x y hi hj hxy => ?_, fun k q hk => h.2 q (List.mem_of_getElem? hk)⟩
    obtain ⟨hi1, hi2⟩ := List.getElem?_eq_some_iff.mp hi
    obtain ⟨hj1, hj2⟩ := List.getElem?_eq_some_iff.mp hj
    have hp := List.pairwise_iff_getElem.mp h.1
    rcases Nat.lt_trichotomy i j with q | q | q
    · have h3 := hp i j (by rw [List.length_map]; exact hi1) (by rw [List.length_map]; exact hj1) q
      rw [List.getElem_map, List.getElem_map, hi2, hj2] at h3
      exact absurd hxy h3
    · exact q
    · have h3 := hp j i (by rw [List.length_map]; exact hj1) (by rw [List.length_map]; exact hi1) q
      rw [List.getElem_map, List.getElem_map, hi2, hj2] at h3
      exact absurd hxy.symm h3
theorem rot_D {A : Nat → Prop} {a b c : va_W} (h : va_D A (a ++ (b ++ c))) : va_D A (b ++ (a ++ c)) := by
  rw [va_D_nd] at h ⊢
  have hp : (a ++ (b ++ c)).Perm (b ++ (a ++ c)) := by
    rw [← List.append_assoc, ← List.append_assoc]
    exact List.Perm.append_right c List.perm_append_comm
  exact ⟨(hp.map _).nodup_iff.mp h.1, fun q hq => h.2 q (hp.mem_iff.mpr hq)⟩
theorem rot_P {D : va_G} {cl : List vw_C} {H : Heap} {a b c : va_W} (h : va_P D cl (a ++ (b ++ c)) H) : va_P D cl (b ++ (a ++ c)) H := memP h (fun q hq => by
  simp only [List.mem_append] at hq ⊢
  rcases hq with h1 | h1 | h1
  · exact Or.inr (Or.inl h1)
  · exact Or.inl h1
  · exact Or.inr (Or.inr h1))
theorem D_tail {A : Nat → Prop} {fx dy : va_W} (h : va_D A (fx ++ dy)) : va_D A dy := by
  rw [va_D_nd] at h ⊢
  rw [List.map_append] at h
  exact ⟨(List.nodup_append.mp h.1).2.1, fun q hq => h.2 q (List.mem_append_right _ hq)⟩
theorem D_one {A : Nat → Prop} {dy : va_W} (h : va_D A dy) {p q : Nat × va_E} (hp : p ∈ dy) (hq : q ∈ dy) (he : p.1 = q.1) : p = q := by
  obtain ⟨i, hi⟩ := List.getElem?_of_mem hp
  obtain ⟨j, hj⟩ := List.getElem?_of_mem hq
  have := h.1 i j p q hi hj he
  subst this
  exact Option.some.inj (hi.symm.trans hj)
theorem dySet_map {dy : va_W} {a : Nat} {e : va_E} : (dySet dy a e).map (·.1) = dy.map (·.1) := by
  rw [dySet, List.map_map]
  refine List.map_congr_left (fun q _ => ?_)
  simp only [Function.comp]
  split
  · rename_i h; exact h.symm
  · rfl
theorem dySet_ne {dy : va_W} {a : Nat} {e : va_E} {q : Nat × va_E} (hq : q ∈ dy) (hn : ¬ q.1 = a) : q ∈ dySet dy a e := by
  rw [dySet]; exact List.mem_map.mpr ⟨q, hq, by rw [if_neg hn]⟩
theorem dySet_at {dy : va_W} {a : Nat} {e e0 : va_E} (hq : (a, e0) ∈ dy) : (a, e) ∈ dySet dy a e := by
  rw [dySet]; exact List.mem_map.mpr ⟨(a, e0), hq, by simp⟩
section REL
variable {cI : ClassId} {A : Nat → Prop} {dy : va_W} {wa ja : Nat → Nat → Nat} {wz jz : Nat → Nat → Int32} {wn jn : Nat → Nat} {wt jt : Nat → Nat → Int32} {nw nj j : Nat} {v : Int32} {F : Nat → Nat → Int32}
theorem Dw_in (h : Dw cI wa wz wn wt nw dy) (hj : j < nw) : (wa j 0, .inr (9, [.ref (wa j 1), .int (wz j 1), .int (wz j 2), .int (wz j 3), .int (wz j 4), .int (wz j 5)])) ∈ dy := (h j hj).2 _ (by simp [wCells])
/-- a word's cell is written, its other cells and the other words' stay -/
theorem Dw_set (h : Dw cI wa wz wn wt nw dy) (hD : va_D A dy) (hi : ∀ i j, i < nw → j < nw → wa i 0 = wa j 0 → i = j) (hj : j < nw) {wz' : Nat → Nat → Int32} (hz : ∀ i, ¬ i = j → wz' i = wz i) {e : va_E} (he : e = .inr (9, [.ref (wa j 1), .int (wz' j 1), .int (wz' j 2), .int (wz' j 3), .int (wz' j 4), .int (wz' j 5)])) : Dw cI wa wz' wn wt nw (dySet dy (wa j 0) e) := by
  intro i hin
  refine ⟨(h i hin).1, fun q hq => ?_⟩
  have hw := Dw_in h hj
  simp only [wCells, List.mem_cons, List.not_mem_nil, or_false] at hq
  rcases hq with rfl | rfl | rfl
  · by_cases hij : i = j
    · subst hij; rw [← he]; exact dySet_at hw
    · refine dySet_ne ?_ (fun z => hij (hi i j hin hj z))
      rw [hz i hij]
      exact Dw_in h hin
  · refine dySet_ne ((h i hin).2 _ (by simp [wCells])) (fun z => ?_)
    have := D_one hD ((h i hin).2 (wa i 1, .inr (4, [.ref (wa i 2), .int (nI (wn i))])) (by simp [wCells])) hw z
    simp at this
  · refine dySet_ne ((h i hin).2 _ (by simp [wCells])) (fun z => ?_)
    have := D_one hD ((h i hin).2 (wa i 2, .inl (cI, wn i, .inl (wt i))) (by simp [wCells])) hw z
    simp at this
theorem Dj_set (h : Dw cI wa wz wn wt nw dy) (hd : Dj cI ja jz jn jt nj dy) (hD : va_D A dy) (hj : j < nw) {e : va_E} : Dj cI ja jz jn jt nj (dySet dy (wa j 0) e) := by
  intro i hin
  refine ⟨(hd i hin).1, fun q hq => ?_⟩
  have hw := Dw_in h hj
  have hq' := (hd i hin).2 q hq
  refine dySet_ne hq' (fun z => ?_)
  have := D_one hD hq' hw z
  subst this
  simp [jCells] at hq
theorem Dw_mono {dy' : va_W} (h : Dw cI wa wz wn wt nw dy) : Dw cI wa wz wn wt nw (dy' ++ dy) := fun i hi => ⟨(h i hi).1, fun q hq => List.mem_append_right _ ((h i hi).2 q hq)⟩
theorem Dj_mono {dy' : va_W} (h : Dj cI ja jz jn jt nj dy) : Dj cI ja jz jn jt nj (dy' ++ dy) := fun i hi => ⟨(h i hi).1, fun q hq => List.mem_append_right _ ((h i hi).2 q hq)⟩
/-- a new word -/
def aNew (u : Nat × Nat × Nat) : Nat → Nat := fun k => if k = 0 then u.1 else if k = 1 then u.2.1 else u.2.2
def zNew (lg kd : Int32) : Nat → Int32 := fun k => if k = 1 then lg else if k = 2 then kd else if k = 4 then -1 else 0
def jNew (y e : Int32) : Nat → Int32 := fun k => if k = 1 then y else e
theorem Dw_new {u : Nat × Nat × Nat} {lg kd : Int32} {dn : Nat} {f : Nat → Int32} (h : Dw cI wa wz wn wt nw dy) (hdn : dn ≤ 20) : Dw cI (exF wa nw (aNew u)) (exF wz nw (zNew lg kd)) (exF wn nw dn) (exF wt nw f) (nw + 1) ([(u.1, .inr (9, [.ref u.2.1, .int lg, .int kd, .int 0, .int (-1), .int 0])), (u.2.1, .inr (4, [.ref u.2.2, .int (nI dn)])), (u.2.2, .inl (cI, dn, .inl f))] ++ dy) := by
  intro i hi
  by_cases he : i = nw
  · subst he
    refine ⟨by rw [exF_eq]; exact hdn, fun q hq => List.mem_append_left _ ?_⟩
    simp only [wCells, exF_eq] at hq
    simpa [aNew, zNew] using hq
  · have := h i (by omega)
    refine ⟨by rw [exF_ne he]; exact this.1, fun q hq => List.mem_append_right _ (this.2 q ?_)⟩
    simp only [wCells, exF_ne he] at hq ⊢
    exact hq
theorem Dj_new {u : Nat × Nat × Nat} {y e : Int32} {dn : Nat} {f : Nat → Int32} (h : Dj cI ja jz jn jt nj dy) (hdn : dn ≤ 20) : Dj cI (exF ja nj (aNew u)) (exF jz nj (jNew y e)) (exF jn nj dn) (exF jt nj f) (nj + 1) ([(u.1, .inr (2, [.ref u.2.1, .int y, .int e])), (u.2.1, .inr (4, [.ref u.2.2, .int (nI dn)])), (u.2.2, .inl (cI, dn, .inl f))] ++ dy) := by
  intro i hi
  by_cases he : i = nj
  · subst he
    refine ⟨by rw [exF_eq]; exact hdn, fun q hq => List.mem_append_left _ ?_⟩
    simp only [jCells, exF_eq] at hq
    simpa [aNew, jNew] using hq
  · have := h i (by omega)
    refine ⟨by rw [exF_ne he]; exact this.1, fun q hq => List.mem_append_right _ (this.2 q ?_)⟩
    simp only [jCells, exF_ne he] at hq ⊢
    exact hq
theorem wi_new {u : Nat × Nat × Nat} (hi : ∀ i j, i < nw → j < nw → wa i 0 = wa j 0 → i = j) (hn : ∀ i, i < nw → ¬ wa i 0 = u.1) : ∀ i j, i < nw + 1 → j < nw + 1 → exF wa nw (aNew u) i 0 = exF wa nw (aNew u) j 0 → i = j := by
  intro i j h1 h2 h3
  by_cases e1 : i = nw <;> by_cases e2 : j = nw
  · omega
  · subst e1; rw [exF_eq, exF_ne e2] at h3; exact absurd h3.symm (hn j (by omega))
  · subst e2; rw [exF_eq, exF_ne e1] at h3; exact absurd h3 (hn i (by omega))
  · rw [exF_ne e1, exF_ne e2] at h3; exact hi i j (by omega) (by omega) h3
theorem wf_new {wf : Nat → Option Nat} {u : Nat × Nat × Nat} (h : ∀ i, i < nw → wf i = some (wa i 0)) : ∀ i, i < nw + 1 → va_up wf nw (some u.1) i = some (exF wa nw (aNew u) i 0) := by
  intro i hi
  by_cases e : i = nw
  · subst e; rw [va_up_self, exF_eq]; rfl
  · rw [va_up_ne _ _ e, exF_ne e]; exact h i (by omega)
theorem RW_2 {kd : Int32} (h : RW F nw wz wn wt) (hj : j < nw) (hk : ∃ q, q < 64 ∧ wz j 2 ||| kd = nI q) : RW (upF F 9 (upd (F 9) j (F 9 j ||| kd))) nw (up2 wz j 2 (wz j 2 ||| kd)) wn wt := by
  intro i hi
  obtain ⟨h1, h2, h3, h4, h5, h6, h7, h8, h9⟩ := h i hi
  by_cases he : i = j
  · subst he
    simp only [upF, up2, upd_at]
    simp only [show ¬ (7 : Nat) = 9 by decide, show ¬ (6 : Nat) = 9 by decide, show ¬ (8 : Nat) = 9 by decide, show ¬ (10 : Nat) = 9 by decide, show ¬ (11 : Nat) = 9 by decide, show ¬ (12 : Nat) = 9 by decide, show ¬ (1 : Nat) = 2 by decide, show ¬ (3 : Nat) = 2 by decide, show ¬ (4 : Nat) = 2 by decide, show ¬ (5 : Nat) = 2 by decide, if_true, if_false]
    exact ⟨h1, h2, h3, h4, by rw [upd_at, if_pos rfl, h5], h6, h7, h8, hk⟩
  · simp only [upF, up2, upd_at, if_neg he]
    exact ⟨h1, h2, h3, h4, by simp [upd_at, he, h5], h6, h7, h8, h9⟩
theorem RW_3 {e : Int32} (h : RW F nw wz wn wt) : RW (upF F 10 (upd (F 10) j e)) nw (up2 wz j 3 e) wn wt := by
  intro i hi
  obtain ⟨h1, h2, h3, h4, h5, h6, h7, h8, h9⟩ := h i hi
  by_cases he : i = j <;> simp only [upF, up2, upd_at, he, if_true, if_false]
  · subst he; exact ⟨h1, h2, h3, h4, h5, by simp, h7, h8, h9⟩
  · exact ⟨h1, h2, h3, h4, h5, by simp [h6], h7, h8, h9⟩
theorem RW_4 {e : Int32} (h : RW F nw wz wn wt) : RW (upF F 11 (upd (F 11) j e)) nw (up2 wz j 4 e) wn wt := by
  intro i hi
  obtain ⟨h1, h2, h3, h4, h5, h6, h7, h8, h9⟩ := h i hi
  by_cases he : i = j <;> simp only [upF, up2, upd_at, he, if_true, if_false]
  · subst he; exact ⟨h1, h2, h3, h4, h5, h6, by simp, h8, h9⟩
  · exact ⟨h1, h2, h3, h4, h5, h6, by simp [h7], h8, h9⟩
theorem RW_5 {e : Int32} (h : RW F nw wz wn wt) : RW (upF F 12 (upd (F 12) j e)) nw (up2 wz j 5 e) wn wt := by
  intro i hi
  obtain ⟨h1, h2, h3, h4, h5, h6, h7, h8, h9⟩ := h i hi
  by_cases he : i = j <;> simp only [upF, up2, upd_at, he, if_true, if_false]
  · subst he; exact ⟨h1, h2, h3, h4, h5, h6, h7, by simp, h9⟩
  · exact ⟨h1, h2, h3, h4, h5, h6, h7, by simp [h8], h9⟩
theorem RJ_F {F' : Nat → Nat → Int32} (h : RJ F nj jz jn jt) (h6 : F' 6 = F 6) (h7 : F' 7 = F 7) (h13 : F' 13 = F 13) (h14 : F' 14 = F 14) : RJ F' nj jz jn jt := by
  intro i hi
  rw [h6, h7, h13, h14]; exact h i hi
/-- the model's arrays after a new word -/
def FwN (F : Nat → Nat → Int32) (df : Nat → Int32) (nw dn : Nat) (lg kd : Int32) : Nat → Nat → Int32 := upF (upF (upF (upF (upF (upF (upF F 6 (lyF (F 6) df nw dn)) 7 (upd (F 7) nw (nI dn))) 8 (upd (F 8) nw lg)) 9 (upd (F 9) nw kd)) 10 (upd (F 10) nw 0)) 11 (upd (F 11) nw (-1))) 12 (upd (F 12) nw 0)
def FjN (F : Nat → Nat → Int32) (df : Nat → Int32) (nj dn : Nat) (y e : Int32) : Nat → Nat → Int32 := upF (upF (upF (upF F 6 (lyF (F 6) df (40 + nj) dn)) 7 (upd (F 7) (40 + nj) (nI dn))) 13 (upd (F 13) nj y)) 14 (upd (F 14) nj e)
theorem RW_new {df : Nat → Int32} {dn : Nat} {lg kd : Int32} (h : RW F nw wz wn wt) (hdn : dn ≤ 20) (hdl : ∀ k, k < dn → isLe (df k) = true) (hk : ∃ q, q < 64 ∧ kd = nI q) : RW (FwN F df nw dn lg kd) (nw + 1) (exF wz nw (zNew lg kd)) (exF wn nw dn) (exF wt nw (cpF (fun _ => 0) df dn)) := by
  have e6 : FwN F df nw dn lg kd 6 = lyF (F 6) df nw dn := rfl
  have e7 : FwN F df nw dn lg kd 7 = upd (F 7) nw (nI dn) := rfl
  have e8 : FwN F df nw dn lg kd 8 = upd (F 8) nw lg := rfl
  have e9 : FwN F df nw dn lg kd 9 = upd (F 9) nw kd := rfl
  have e10 : FwN F df nw dn lg kd 10 = upd (F 10) nw 0 := rfl
  have e11 : FwN F df nw dn lg kd 11 = upd (F 11) nw (-1) := rfl
  have e12 : FwN F df nw dn lg kd 12 = upd (F 12) nw 0 := rfl
  intro i hi
  rw [e6, e7, e8, e9, e10, e11, e12]
  by_cases he : i = nw
  · subst he
    simp only [exF_eq, upd_at, if_true]
    refine ⟨trivial, hdn, fun k hk' => ⟨?_, ?_⟩, rfl, rfl, rfl, rfl, rfl, hk⟩
    · rw [lyF, if_pos (by omega), show 20 * i + k - 20 * i = k by omega, cpF, if_pos hk']
    · rw [cpF, if_pos hk']; exact hdl k hk'
  · obtain ⟨h1, h2, h3, h4, h5, h6, h7, h8, h9⟩ := h i (by omega)
    simp only [exF_ne he, upd_at, if_neg he]
    refine ⟨h1, h2, fun k hk' => ⟨?_, (h3 k hk').2⟩, h4, h5, h6, h7, h8, h9⟩
    rw [lyF, if_neg (by omega)]; exact (h3 k hk').1
theorem RJ_w {df : Nat → Int32} {dn : Nat} {lg kd : Int32} (h : RJ F nj jz jn jt) (hdn : dn ≤ 20) (h40 : nw < 40) : RJ (FwN F df nw dn lg kd) nj jz jn jt := by
  have e6 : FwN F df nw dn lg kd 6 = lyF (F 6) df nw dn := rfl
  have e7 : FwN F df nw dn lg kd 7 = upd (F 7) nw (nI dn) := rfl
  have e13 : FwN F df nw dn lg kd 13 = F 13 := rfl
  have e14 : FwN F df nw dn lg kd 14 = F 14 := rfl
  intro i hi
  obtain ⟨h1, h2, h3, h4, h5⟩ := h i hi
  rw [e6, e7, e13, e14, upd_at, if_neg (by omega)]
  refine ⟨h1, h2, fun k hk' => ⟨?_, (h3 k hk').2⟩, h4, h5⟩
  rw [lyF, if_neg (by omega)]; exact (h3 k hk').1
theorem RW_j {df : Nat → Int32} {dn : Nat} {y e : Int32} (h : RW F nw wz wn wt) (hnw : nw ≤ 40) : RW (FjN F df nj dn y e) nw wz wn wt := by
  have e6 : FjN F df nj dn y e 6 = lyF (F 6) df (40 + nj) dn := rfl
  have e7 : FjN F df nj dn y e 7 = upd (F 7) (40 + nj) (nI dn) := rfl
  have e8 : FjN F df nj dn y e 8 = F 8 := rfl
  have e9 : FjN F df nj dn y e 9 = F 9 := rfl
  have e10 : FjN F df nj dn y e 10 = F 10 := rfl
  have e11 : FjN F df nj dn y e 11 = F 11 := rfl
  have e12 : FjN F df nj dn y e 12 = F 12 := rfl
  intro i hi
  obtain ⟨h1, h2, h3, h4⟩ := h i hi
  rw [e6, e7, e8, e9, e10, e11, e12, upd_at, if_neg (by omega)]
  refine ⟨h1, h2, fun k hk' => ⟨?_, (h3 k hk').2⟩, h4⟩
  rw [lyF, if_neg (by omega)]; exact (h3 k hk').1
theorem RJ_new {df : Nat → Int32} {dn : Nat} {y e : Int32} (h : RJ F nj jz jn jt) (hdn : dn ≤ 20) (hdl : ∀ k, k < dn → isLe (df k) = true) : RJ (FjN F df nj dn y e) (nj + 1) (exF jz nj (jNew y e)) (exF jn nj dn) (exF jt nj (cpF (fun _ => 0) df dn)) := by
  have e6 : FjN F df nj dn y e 6 = lyF (F 6) df (40 + nj) dn := rfl
  have e7 : FjN F df nj dn y e 7 = upd (F 7) (40 + nj) (nI dn) := rfl
  have e13 : FjN F df nj dn y e 13 = upd (F 13) nj y := rfl
  have e14 : FjN F df nj dn y e 14 = upd (F 14) nj e := rfl
  intro i hi
  rw [e6, e7, e13, e14]
  by_cases he : i = nj
  · subst he
    simp only [exF_eq, upd_at, if_true]
    refine ⟨trivial, hdn, fun k hk' => ⟨?_, ?_⟩, rfl, rfl⟩
    · rw [lyF, if_pos (by omega), show 20 * (40 + i) + k - 20 * (40 + i) = k by omega, cpF, if_pos hk']
    · rw [cpF, if_pos hk']; exact hdl k hk'
  · obtain ⟨h1, h2, h3, h4, h5⟩ := h i (by omega)
    simp only [exF_ne he, upd_at, if_neg he, if_neg (show ¬ 40 + i = 40 + nj by omega)]
    refine ⟨h1, h2, fun k hk' => ⟨?_, (h3 k hk').2⟩, h4, h5⟩
    rw [lyF, if_neg (by omega)]; exact (h3 k hk').1
theorem RT_F {F' T : Nat → Nat → Int32} {tn nw' xn : Nat} (h : RT F T tn nw xn) (hn : nw ≤ nw') (h18 : F' 18 = F 18) (h19 : F' 19 = F 19) (h20 : F' 20 = F 20) (h21 : F' 21 = F 21) : RT F' T tn nw' xn := by
  intro i hi
  obtain ⟨a1, a2, a3, a4, a5, a6⟩ := h i hi
  rw [h18, h19, h20, h21]
  exact ⟨a1, a2, a3, a4, fun q => by obtain ⟨j, hj, e⟩ := a5 q; exact ⟨j, by omega, e⟩, a6⟩
end REL
theorem or_63 : ∀ a, a < 64 → ∀ b, b < 64 → ∃ q, q < 64 ∧ nI a ||| nI b = nI q := by
  have h : ∀ a, a < 64 → ∀ b, b < 64 → (nI a ||| nI b).toNatClampNeg < 64 ∧ nI a ||| nI b = nI (nI a ||| nI b).toNatClampNeg := by decide +kernel
  intro a ha b hb
  exact ⟨_, (h a ha b hb).1, (h a ha b hb).2⟩
theorem okW_kd {lg kd : Int32} (h : okW lg kd = true) : ∃ q, q < 64 ∧ kd = nI q := by
  simp only [okW, Bool.and_eq_true] at h
  obtain ⟨j, h1, h2, e⟩ := inB_of 0 63 (c := kd) h.2 (by decide) (by decide)
  exact ⟨j, by omega, e⟩
theorem nPut_le {ok : Bool} {N n : Nat} (h : n ≤ N) : nPut ok N n ≤ N := by
  unfold nPut; split
  · rename_i h1; have := h1.2; omega
  · exact h
theorem put_all {P : Int32 → Prop} {ok : Bool} {N n : Nat} {f : Nat → Int32} {c : Int32} (h : ∀ k, k < n → P (f k)) (hc : ok = true → P c) : ∀ k, k < nPut ok N n → P (fPut ok N n f c k) := by
  intro k hk
  unfold nPut at hk
  unfold fPut
  by_cases h1 : ok = true ∧ n < N
  · rw [if_pos h1] at hk ⊢
    rw [upd_at]
    by_cases e : k = n
    · rw [if_pos e]; exact hc h1.1
    · rw [if_neg e]; exact h k (by omega)
  · rw [if_neg h1] at hk ⊢; exact h k hk
theorem isBy_nn {c : Int32} (h : isBy c = true) : ¬ c < 0 := by
  simp only [isBy, Bool.and_eq_true, Bool.not_eq_true', decide_eq_false_iff_not] at h
  exact h.1
theorem ixO_is {n : Nat} {x : Int32} (hn : n < 2 ^ 31) (h : (ixO n x).isSome = true) : ∃ i, i < n ∧ x = nI i := by
  obtain ⟨j, hj⟩ := Option.isSome_iff_exists.mp h
  have := ixO_some hj hn
  exact ⟨j, this.1, this.2⟩
theorem isFl_8 {y : Int32} (h : isFl y = true) : ∃ g, g < 8 ∧ y = nI g := by
  simp only [isFl, Bool.and_eq_true, Bool.not_eq_true', decide_eq_false_iff_not] at h
  rcases pk_ix y (n := 8) (by decide) with q | q | ⟨j, hj, e⟩
  · exact absurd q h.1
  · exact absurd q h.2
  · exact ⟨j, hj, e⟩
theorem flag_new {fq : Nat} {y : Int32} {up : Bool} (h : fq < 256) : ∃ q, q < 256 ∧ (if isFl y = true then sfF (nI fq) y up else nI fq) = nI q := by
  by_cases hf : isFl y = true
  · obtain ⟨g, hg, rfl⟩ := isFl_8 hf
    rw [if_pos hf]
    obtain ⟨-, q, hq, e⟩ := sf_m fq h g hg up
    exact ⟨q, hq, e⟩
  · rw [if_neg hf]; exact ⟨fq, h, rfl⟩
theorem RM_new {mw mf : Nat → Int32} {mm tc nw : Nat} {y e r : Int32} (h : RM mw mf mm) (hnw : nw ≤ 40) : RM (if meOk tc nw y e r = true ∧ mm < 60 then upd mw mm e else mw) (if meOk tc nw y e r = true ∧ mm < 60 then upd mf mm r else mf) (if meOk tc nw y e r = true ∧ mm < 60 then mm + 1 else mm) := by
  by_cases hc : meOk tc nw y e r = true ∧ mm < 60
  · simp only [if_pos hc]
    obtain ⟨h1, h2⟩ := hc
    simp only [meOk, Bool.and_eq_true, Bool.or_eq_true, decide_eq_true_eq] at h1
    intro k hk
    simp only [upd_at]
    by_cases ek : k = mm
    · simp only [if_pos ek]
      obtain ⟨i, hi, rfl⟩ := ixO_is (by omega) h1.1.2
      refine ⟨fun z => oI_m1 (j := i) (by omega) z, ?_⟩
      rcases h1.2 with q | q
      · exact Or.inl q
      · exact Or.inr (isFl_8 q)
    · simp only [if_neg ek]; exact h k (by omega)
  · simp only [if_neg hc]; exact h
