/-! the law's step and its loop -/
theorem law_c_word {p : Program} {l : Launch} {en : Env} {s : State} {mi : MethodId} {below : List Frame} {meth : Method} {cd : Code} {b L : Nat} {xs : Nat → Int32} {D : va_G} {cI cJ cW : ClassId} {A : Nat → Prop} {Q : State → Prop} (C : LC p s mi meth cd b L xs D cI cJ cW A) {G : Gh} (I : Inv cI G) {i : Nat} (hi : i + 3 < L) {H : Heap} {locs : List Loc} (hP : va_P D vwCl (gw cI cJ cW G) H) (hD : va_D A (gw cI cJ cW G)) (hS : va_S A s.heap H locs) {ls : Array Slot} (hl : lv_has ls 4 [(0, .ref b), (1, .ref G.1.1.1.1.1.1), (2, .ref G.1.2.2.1.2.2.1), (3, .int (nI i))])
    (kk : ∀ G' : Gh, Inv cI G' → G'.1.1.1.1.1.1 = G.1.1.1.1.1.1 → G'.1.2.2.1.2.2.1 = G.1.2.2.1.2.2.1 → ∀ (H : Heap) (locs : List Loc), va_P D vwCl (gw cI cJ cW G') H → va_D A (gw cI cJ cW G') → va_S A s.heap H locs → W p l en room_1 s mi #[Value.ref b] below meth cd H locs (clG G') (slG G') Q (F0 mi 786 ls [])) : W p l en room_1 s mi #[Value.ref b] below meth cd H locs (clG G) (slG G) Q (F0 mi 200 ls []) := by
  by_cases hno : okW (xs (i + 1)) (xs (i + 2)) = true ∧ ¬ G.1.2.2.2.1.2 = 0 ∧ (G.1.2.2.2.2.1 < 40 ∨ ∃ j, fwC G.1.2.2.2.1.1 G.2.1.1.2.1.2 G.2.2.2.1.2.2.2 G.2.2.2.2.2.2.1 G.2.2.2.2.1.2 G.1.2.2.2.2.1 G.2.1.1.2.2.1 (xs (i + 1)) 0 G.1.2.2.2.1.2 = some j)
  · obtain ⟨hok, h0, h40⟩ := hno
    cases hf : fwC G.1.2.2.2.1.1 G.2.1.1.2.1.2 G.2.2.2.1.2.2.2 G.2.2.2.2.2.2.1 G.2.2.2.2.1.2 G.1.2.2.2.2.1 G.2.1.1.2.2.1 (xs (i + 1)) 0 G.1.2.2.2.1.2 with
    | some j => exact law_word_f C I hi hP hD hS hl hok h0 hf kk
    | none =>
      have h4 : G.1.2.2.2.2.1 < 40 := by
        rcases h40 with q | ⟨j, q⟩
        · exact q
        · rw [hf] at q; cases q
      exact law_word_w C I hi hP hD hS hl hok h0 hf h4 kk
  · exact law_word_n C I hi hP hD hS hl hno kk
theorem law_c_value {p : Program} {l : Launch} {en : Env} {s : State} {mi : MethodId} {below : List Frame} {meth : Method} {cd : Code} {b L : Nat} {xs : Nat → Int32} {D : va_G} {cI cJ cW : ClassId} {A : Nat → Prop} {Q : State → Prop} (C : LC p s mi meth cd b L xs D cI cJ cW A) {G : Gh} (I : Inv cI G) {i : Nat} (hi : i + 3 < L) {H : Heap} {locs : List Loc} (hP : va_P D vwCl (gw cI cJ cW G) H) (hD : va_D A (gw cI cJ cW G)) (hS : va_S A s.heap H locs) {ls : Array Slot} (hl : lv_has ls 4 [(0, .ref b), (1, .ref G.1.1.1.1.1.1), (2, .ref G.1.2.2.1.2.2.1), (3, .int (nI i))])
    (kk : ∀ G' : Gh, Inv cI G' → G'.1.1.1.1.1.1 = G.1.1.1.1.1.1 → G'.1.2.2.1.2.2.1 = G.1.2.2.1.2.2.1 → ∀ (H : Heap) (locs : List Loc), va_P D vwCl (gw cI cJ cW G') H → va_D A (gw cI cJ cW G') → va_S A s.heap H locs → W p l en room_1 s mi #[Value.ref b] below meth cd H locs (clG G') (slG G') Q (F0 mi 786 ls [])) : W p l en room_1 s mi #[Value.ref b] below meth cd H locs (clG G) (slG G) Q (F0 mi 233 ls []) := by
  by_cases hex : ∃ j, j < G.1.2.2.2.2.1 ∧ xs (i + 1) = nI j ∧ ((!decide (xs (i + 2) < 0) && decide (xs (i + 2) ≤ 1000)) = true ∧ ¬ G.2.2.2.1.2.2.2 j 2 &&& 32 = 0)
  · obtain ⟨j, hj, hy, hc⟩ := hex
    exact law_value C I hi hP hD hS hl hj hy hc.1 hc.2 kk
  · exact law_value_n C I hi hP hD hS hl (fun j hj hy hc => hex ⟨j, hj, hy, hc⟩) kk
theorem law_c_plural {p : Program} {l : Launch} {en : Env} {s : State} {mi : MethodId} {below : List Frame} {meth : Method} {cd : Code} {b L : Nat} {xs : Nat → Int32} {D : va_G} {cI cJ cW : ClassId} {A : Nat → Prop} {Q : State → Prop} (C : LC p s mi meth cd b L xs D cI cJ cW A) {G : Gh} (I : Inv cI G) {i : Nat} (hi : i + 3 < L) {H : Heap} {locs : List Loc} (hP : va_P D vwCl (gw cI cJ cW G) H) (hD : va_D A (gw cI cJ cW G)) (hS : va_S A s.heap H locs) {ls : Array Slot} (hl : lv_has ls 4 [(0, .ref b), (1, .ref G.1.1.1.1.1.1), (2, .ref G.1.2.2.1.2.2.1), (3, .int (nI i))])
    (kk : ∀ G' : Gh, Inv cI G' → G'.1.1.1.1.1.1 = G.1.1.1.1.1.1 → G'.1.2.2.1.2.2.1 = G.1.2.2.1.2.2.1 → ∀ (H : Heap) (locs : List Loc), va_P D vwCl (gw cI cJ cW G') H → va_D A (gw cI cJ cW G') → va_S A s.heap H locs → W p l en room_1 s mi #[Value.ref b] below meth cd H locs (clG G') (slG G') Q (F0 mi 786 ls [])) : W p l en room_1 s mi #[Value.ref b] below meth cd H locs (clG G) (slG G) Q (F0 mi 266 ls []) := by
  by_cases hex : ∃ j, j < G.1.2.2.2.2.1 ∧ xs (i + 1) = nI j ∧ ((xs (i + 2) = -1 ∨ (ixO G.1.2.2.2.2.1 (xs (i + 2))).isSome = true) ∧ ¬ xs (i + 1) = xs (i + 2))
  · obtain ⟨j, hj, hy, hc⟩ := hex
    exact law_plural C I hi hP hD hS hl hj hy hc.1 (fun z => hc.2 (hy.trans z)) kk
  · exact law_plural_n C I hi hP hD hS hl (fun j hj hy hc => hex ⟨j, hj, hy, hc⟩) kk
theorem law_c_refer {p : Program} {l : Launch} {en : Env} {s : State} {mi : MethodId} {below : List Frame} {meth : Method} {cd : Code} {b L : Nat} {xs : Nat → Int32} {D : va_G} {cI cJ cW : ClassId} {A : Nat → Prop} {Q : State → Prop} (C : LC p s mi meth cd b L xs D cI cJ cW A) {G : Gh} (I : Inv cI G) {i : Nat} (hi : i + 3 < L) {H : Heap} {locs : List Loc} (hP : va_P D vwCl (gw cI cJ cW G) H) (hD : va_D A (gw cI cJ cW G)) (hS : va_S A s.heap H locs) {ls : Array Slot} (hl : lv_has ls 4 [(0, .ref b), (1, .ref G.1.1.1.1.1.1), (2, .ref G.1.2.2.1.2.2.1), (3, .int (nI i))])
    (kk : ∀ G' : Gh, Inv cI G' → G'.1.1.1.1.1.1 = G.1.1.1.1.1.1 → G'.1.2.2.1.2.2.1 = G.1.2.2.1.2.2.1 → ∀ (H : Heap) (locs : List Loc), va_P D vwCl (gw cI cJ cW G') H → va_D A (gw cI cJ cW G') → va_S A s.heap H locs → W p l en room_1 s mi #[Value.ref b] below meth cd H locs (clG G') (slG G') Q (F0 mi 786 ls [])) : W p l en room_1 s mi #[Value.ref b] below meth cd H locs (clG G) (slG G) Q (F0 mi 595 ls []) := by
  by_cases hex : ∃ j, j < G.1.2.2.2.2.1 ∧ xs (i + 1) = nI j ∧ (alB (nI G.2.1.1.1.1.2) (xs (i + 2)) = true ∧ ¬ G.2.2.2.1.2.2.2 j 2 &&& 16 = 0)
  · obtain ⟨j, hj, hy, hc⟩ := hex
    exact law_refer C I hi hP hD hS hl hj hy hc.1 hc.2 kk
  · exact law_refer_n C I hi hP hD hS hl (fun j hj hy hc => hex ⟨j, hj, hy, hc⟩) kk
theorem law_c_join {p : Program} {l : Launch} {en : Env} {s : State} {mi : MethodId} {below : List Frame} {meth : Method} {cd : Code} {b L : Nat} {xs : Nat → Int32} {D : va_G} {cI cJ cW : ClassId} {A : Nat → Prop} {Q : State → Prop} (C : LC p s mi meth cd b L xs D cI cJ cW A) {G : Gh} (I : Inv cI G) {i : Nat} (hi : i + 3 < L) {H : Heap} {locs : List Loc} (hP : va_P D vwCl (gw cI cJ cW G) H) (hD : va_D A (gw cI cJ cW G)) (hS : va_S A s.heap H locs) {ls : Array Slot} (hl : lv_has ls 4 [(0, .ref b), (1, .ref G.1.1.1.1.1.1), (2, .ref G.1.2.2.1.2.2.1), (3, .int (nI i))])
    (kk : ∀ G' : Gh, Inv cI G' → G'.1.1.1.1.1.1 = G.1.1.1.1.1.1 → G'.1.2.2.1.2.2.1 = G.1.2.2.1.2.2.1 → ∀ (H : Heap) (locs : List Loc), va_P D vwCl (gw cI cJ cW G') H → va_D A (gw cI cJ cW G') → va_S A s.heap H locs → W p l en room_1 s mi #[Value.ref b] below meth cd H locs (clG G') (slG G') Q (F0 mi 786 ls [])) : W p l en room_1 s mi #[Value.ref b] below meth cd H locs (clG G) (slG G) Q (F0 mi 299 ls []) := by
  by_cases hno : ((ixO G.1.2.2.2.2.1 (xs (i + 1))).isSome && (ixO G.1.2.2.2.2.1 (xs (i + 2))).isSome) = true ∧ ¬ G.1.2.2.2.1.2 = 0 ∧ G.1.2.2.2.2.2.1 < 8
  · exact law_join C I hi hP hD hS hl hno.1 hno.2.1 hno.2.2 kk
  · exact law_join_n C I hi hP hD hS hl hno kk
theorem law_c_flag {p : Program} {l : Launch} {en : Env} {s : State} {mi : MethodId} {below : List Frame} {meth : Method} {cd : Code} {b L : Nat} {xs : Nat → Int32} {D : va_G} {cI cJ cW : ClassId} {A : Nat → Prop} {Q : State → Prop} (C : LC p s mi meth cd b L xs D cI cJ cW A) {G : Gh} (I : Inv cI G) {i : Nat} (hi : i + 3 < L) {H : Heap} {locs : List Loc} (hP : va_P D vwCl (gw cI cJ cW G) H) (hD : va_D A (gw cI cJ cW G)) (hS : va_S A s.heap H locs) {ls : Array Slot} (hl : lv_has ls 4 [(0, .ref b), (1, .ref G.1.1.1.1.1.1), (2, .ref G.1.2.2.1.2.2.1), (3, .int (nI i))])
    (kk : ∀ G' : Gh, Inv cI G' → G'.1.1.1.1.1.1 = G.1.1.1.1.1.1 → G'.1.2.2.1.2.2.1 = G.1.2.2.1.2.2.1 → ∀ (H : Heap) (locs : List Loc), va_P D vwCl (gw cI cJ cW G') H → va_D A (gw cI cJ cW G') → va_S A s.heap H locs → W p l en room_1 s mi #[Value.ref b] below meth cd H locs (clG G') (slG G') Q (F0 mi 786 ls [])) : W p l en room_1 s mi #[Value.ref b] below meth cd H locs (clG G) (slG G) Q (F0 mi 546 ls []) := by
  by_cases h0 : xs (i + 2) = 0
  · exact law_flag_f C I hi hP hD hS hl h0 kk
  · exact law_flag_t C I hi hP hD hS hl h0 kk
theorem law_c_read {p : Program} {l : Launch} {en : Env} {s : State} {mi : MethodId} {below : List Frame} {meth : Method} {cd : Code} {b L : Nat} {xs : Nat → Int32} {D : va_G} {cI cJ cW : ClassId} {A : Nat → Prop} {Q : State → Prop} (C : LC p s mi meth cd b L xs D cI cJ cW A) {G : Gh} (I : Inv cI G) {i : Nat} (hi : i + 3 < L) {H : Heap} {locs : List Loc} (hP : va_P D vwCl (gw cI cJ cW G) H) (hD : va_D A (gw cI cJ cW G)) (hS : va_S A s.heap H locs) {ls : Array Slot} (hl : lv_has ls 4 [(0, .ref b), (1, .ref G.1.1.1.1.1.1), (2, .ref G.1.2.2.1.2.2.1), (3, .int (nI i))])
    (kk : ∀ G' : Gh, Inv cI G' → G'.1.1.1.1.1.1 = G.1.1.1.1.1.1 → G'.1.2.2.1.2.2.1 = G.1.2.2.1.2.2.1 → ∀ (H : Heap) (locs : List Loc), va_P D vwCl (gw cI cJ cW G') H → va_D A (gw cI cJ cW G') → va_S A s.heap H locs → W p l en room_1 s mi #[Value.ref b] below meth cd H locs (clG G') (slG G') Q (F0 mi 786 ls [])) : W p l en room_1 s mi #[Value.ref b] below meth cd H locs (clG G) (slG G) Q (F0 mi 355 ls []) := by
  by_cases hlg : isLg (xs (i + 1)) = true
  · have hfw : ∀ g a b j, fwC G.1.2.2.2.1.1 G.2.1.1.2.1.2 G.2.2.2.1.2.2.2 G.2.2.2.2.2.2.1 G.2.2.2.2.1.2 G.1.2.2.2.2.1 G.2.1.1.2.2.2.1 g a b = some j → j < G.1.2.2.2.2.1 := fun _ _ _ _ h => fiO_lt h
    have hfj : ∀ a b j, fjC G.1.2.2.2.1.1 G.2.1.1.2.1.2 G.2.2.2.2.2.2.2 G.2.2.2.2.2.1 G.1.2.2.2.2.2.1 G.2.1.1.2.2.2.1 a b = some j → (∃ i, i < G.1.2.2.2.2.1 ∧ G.2.2.2.2.1.1 j 1 = nI i) ∧ ∃ i, i < G.1.2.2.2.2.1 ∧ G.2.2.2.2.1.1 j 2 = nI i := fun _ _ j h => I.hjw j (fiO_lt h)
    have hr : ((cutL (foC G.2.1.1.2.1.2) (fwC G.1.2.2.2.1.1 G.2.1.1.2.1.2 G.2.2.2.1.2.2.2 G.2.2.2.2.2.2.1 G.2.2.2.2.1.2 G.1.2.2.2.2.1 G.2.1.1.2.2.2.1) (fjC G.1.2.2.2.1.1 G.2.1.1.2.1.2 G.2.2.2.2.2.2.2 G.2.2.2.2.2.1 G.1.2.2.2.2.2.1 G.2.1.1.2.2.2.1) (fun j => G.2.2.2.2.1.1 j 1) (fun j => G.2.2.2.2.1.1 j 2) (xs (i + 1)) G.1.2.2.2.2.2.2 G.2.1.1.2.2.2.1 80 0 (0, 0, G.2.1.2.2.2.1)).2.1 = 0 ↔ (cutM (foC G.2.1.1.2.1.2) (fwC G.1.2.2.2.1.1 G.2.1.1.2.1.2 G.2.2.2.1.2.2.2 G.2.2.2.2.2.2.1 G.2.2.2.2.1.2 G.1.2.2.2.2.1 G.2.1.1.2.2.2.1) (fjC G.1.2.2.2.1.1 G.2.1.1.2.1.2 G.2.2.2.2.2.2.2 G.2.2.2.2.2.1 G.1.2.2.2.2.2.1 G.2.1.1.2.2.2.1) (fun j => G.2.2.2.2.1.1 j 1) (fun j => G.2.2.2.2.1.1 j 2) (xs (i + 1)) G.1.2.2.2.2.2.2 G.2.1.1.2.2.2.1 80 0 (0, 0, G.2.1.2.2.2.2.2.2.2)).2.1 = 0) ∧ ((cutL (foC G.2.1.1.2.1.2) (fwC G.1.2.2.2.1.1 G.2.1.1.2.1.2 G.2.2.2.1.2.2.2 G.2.2.2.2.2.2.1 G.2.2.2.2.1.2 G.1.2.2.2.2.1 G.2.1.1.2.2.2.1) (fjC G.1.2.2.2.1.1 G.2.1.1.2.1.2 G.2.2.2.2.2.2.2 G.2.2.2.2.2.1 G.1.2.2.2.2.2.1 G.2.1.1.2.2.2.1) (fun j => G.2.2.2.2.1.1 j 1) (fun j => G.2.2.2.2.1.1 j 2) (xs (i + 1)) G.1.2.2.2.2.2.2 G.2.1.1.2.2.2.1 80 0 (0, 0, G.2.1.2.2.2.1)).2.1 = 0 → tsR (cutL (foC G.2.1.1.2.1.2) (fwC G.1.2.2.2.1.1 G.2.1.1.2.1.2 G.2.2.2.1.2.2.2 G.2.2.2.2.2.2.1 G.2.2.2.2.1.2 G.1.2.2.2.2.1 G.2.1.1.2.2.2.1) (fjC G.1.2.2.2.1.1 G.2.1.1.2.1.2 G.2.2.2.2.2.2.2 G.2.2.2.2.2.1 G.1.2.2.2.2.2.1 G.2.1.1.2.2.2.1) (fun j => G.2.2.2.2.1.1 j 1) (fun j => G.2.2.2.2.1.1 j 2) (xs (i + 1)) G.1.2.2.2.2.2.2 G.2.1.1.2.2.2.1 80 0 (0, 0, G.2.1.2.2.2.1)) (cutM (foC G.2.1.1.2.1.2) (fwC G.1.2.2.2.1.1 G.2.1.1.2.1.2 G.2.2.2.1.2.2.2 G.2.2.2.2.2.2.1 G.2.2.2.2.1.2 G.1.2.2.2.2.1 G.2.1.1.2.2.2.1) (fjC G.1.2.2.2.1.1 G.2.1.1.2.1.2 G.2.2.2.2.2.2.2 G.2.2.2.2.2.1 G.1.2.2.2.2.2.1 G.2.1.1.2.2.2.1) (fun j => G.2.2.2.2.1.1 j 1) (fun j => G.2.2.2.2.1.1 j 2) (xs (i + 1)) G.1.2.2.2.2.2.2 G.2.1.1.2.2.2.1 80 0 (0, 0, G.2.1.2.2.2.2.2.2.2))) := cut_R (fo := G.2.1.1.2.1.2) (fw := fwC G.1.2.2.2.1.1 G.2.1.1.2.1.2 G.2.2.2.1.2.2.2 G.2.2.2.2.2.2.1 G.2.2.2.2.1.2 G.1.2.2.2.2.1 G.2.1.1.2.2.2.1) (fj := fjC G.1.2.2.2.1.1 G.2.1.1.2.1.2 G.2.2.2.2.2.2.2 G.2.2.2.2.2.1 G.1.2.2.2.2.2.1 G.2.1.1.2.2.2.1) (j1 := fun j => G.2.2.2.2.1.1 j 1) (j2 := fun j => G.2.2.2.2.1.1 j 2) (lg := (xs (i + 1))) (n := G.1.2.2.2.2.2.2) (L := G.2.1.1.2.2.2.1) hfw hfj 80 0 (0, 0, G.2.1.2.2.2.1) (0, 0, G.2.1.2.2.2.2.2.2.2) ⟨rfl, rfl, fun k i h => absurd h (Nat.not_lt_zero i)⟩ rfl
    have hg : tsG G.1.2.2.2.2.1 G.1.2.2.2.2.2.2 (cutL (foC G.2.1.1.2.1.2) (fwC G.1.2.2.2.1.1 G.2.1.1.2.1.2 G.2.2.2.1.2.2.2 G.2.2.2.2.2.2.1 G.2.2.2.2.1.2 G.1.2.2.2.2.1 G.2.1.1.2.2.2.1) (fjC G.1.2.2.2.1.1 G.2.1.1.2.1.2 G.2.2.2.2.2.2.2 G.2.2.2.2.2.1 G.1.2.2.2.2.2.1 G.2.1.1.2.2.2.1) (fun j => G.2.2.2.2.1.1 j 1) (fun j => G.2.2.2.2.1.1 j 2) (xs (i + 1)) G.1.2.2.2.2.2.2 G.2.1.1.2.2.2.1 80 0 (0, 0, G.2.1.2.2.2.1)) := cutL_G (fo := G.2.1.1.2.1.2) (fw := fwC G.1.2.2.2.1.1 G.2.1.1.2.1.2 G.2.2.2.1.2.2.2 G.2.2.2.2.2.2.1 G.2.2.2.2.1.2 G.1.2.2.2.2.1 G.2.1.1.2.2.2.1) (fj := fjC G.1.2.2.2.1.1 G.2.1.1.2.1.2 G.2.2.2.2.2.2.2 G.2.2.2.2.2.1 G.1.2.2.2.2.2.1 G.2.1.1.2.2.2.1) (j1 := fun j => G.2.2.2.2.1.1 j 1) (j2 := fun j => G.2.2.2.2.1.1 j 2) (lg := (xs (i + 1))) (n := G.1.2.2.2.2.2.2) (L := G.2.1.1.2.2.2.1) hfw hfj 80 0 (0, 0, G.2.1.2.2.2.1) ⟨Nat.zero_le _, fun i h => absurd h (Nat.not_lt_zero i)⟩
    revert hr hg
    generalize hc1 : (cutL (foC G.2.1.1.2.1.2) (fwC G.1.2.2.2.1.1 G.2.1.1.2.1.2 G.2.2.2.1.2.2.2 G.2.2.2.2.2.2.1 G.2.2.2.2.1.2 G.1.2.2.2.2.1 G.2.1.1.2.2.2.1) (fjC G.1.2.2.2.1.1 G.2.1.1.2.1.2 G.2.2.2.2.2.2.2 G.2.2.2.2.2.1 G.1.2.2.2.2.2.1 G.2.1.1.2.2.2.1) (fun j => G.2.2.2.2.1.1 j 1) (fun j => G.2.2.2.2.1.1 j 2) (xs (i + 1)) G.1.2.2.2.2.2.2 G.2.1.1.2.2.2.1 80 0 (0, 0, G.2.1.2.2.2.1)) = c1
    generalize hc2 : (cutM (foC G.2.1.1.2.1.2) (fwC G.1.2.2.2.1.1 G.2.1.1.2.1.2 G.2.2.2.1.2.2.2 G.2.2.2.2.2.2.1 G.2.2.2.2.1.2 G.1.2.2.2.2.1 G.2.1.1.2.2.2.1) (fjC G.1.2.2.2.1.1 G.2.1.1.2.1.2 G.2.2.2.2.2.2.2 G.2.2.2.2.2.1 G.1.2.2.2.2.2.1 G.2.1.1.2.2.2.1) (fun j => G.2.2.2.2.1.1 j 1) (fun j => G.2.2.2.2.1.1 j 2) (xs (i + 1)) G.1.2.2.2.2.2.2 G.2.1.1.2.2.2.1 80 0 (0, 0, G.2.1.2.2.2.2.2.2.2)) = c2
    intro hr hg
    by_cases hok : c1.2.1 = 0
    · have hR := hr.2 hok
      have h2 := hr.1.mp hok
      obtain ⟨n1, m1, T1⟩ := c1
      obtain ⟨n2, m2, T2⟩ := c2
      have e1 : n1 = n2 := hR.1
      have e2 : m1 = 0 := hok
      have e3 : m2 = 0 := h2
      subst e1
      subst e2
      subst e3
      exact law_read_t C I hi hP hD hS hl hc1 hc2 hlg hR hg kk
    · exact law_read_n C I hi hP hD hS hl hc1 hc2 hlg hok (fun z => hok (hr.1.mpr z)) kk
  · exact law_read_f C I hi hP hD hS hl (Bool.eq_false_iff.mpr hlg) kk
set_option maxRecDepth 100000 in
theorem law_step {p : Program} {l : Launch} {en : Env} {s : State} {mi : MethodId} {below : List Frame} {meth : Method} {cd : Code} {b L : Nat} {xs : Nat → Int32} {D : va_G} {cI cJ cW : ClassId} {A : Nat → Prop} {Q : State → Prop} (C : LC p s mi meth cd b L xs D cI cJ cW A) {G : Gh} (I : Inv cI G) {i : Nat} (hi : i + 3 < L) {H : Heap} {locs : List Loc} (hP : va_P D vwCl (gw cI cJ cW G) H) (hD : va_D A (gw cI cJ cW G)) (hS : va_S A s.heap H locs) {ls : Array Slot} (hl : lv_has ls 4 [(0, .ref b), (1, .ref G.1.1.1.1.1.1), (2, .ref G.1.2.2.1.2.2.1), (3, .int (nI i))]) {v : Int32}
    (kk : ∀ G' : Gh, Inv cI G' → G'.1.1.1.1.1.1 = G.1.1.1.1.1.1 → G'.1.2.2.1.2.2.1 = G.1.2.2.1.2.2.1 → ∀ (H : Heap) (locs : List Loc), va_P D vwCl (gw cI cJ cW G') H → va_D A (gw cI cJ cW G') → va_S A s.heap H locs → W p l en room_1 s mi #[Value.ref b] below meth cd H locs (clG G') (slG G') Q (F0 mi 786 ls [])) : W p l en room_1 s mi #[Value.ref b] below meth cd H locs (clG G) (slG G) Q (F0 mi 42 ls [.int v]) := by
  obtain ⟨hx, hb, hml, hown, hts, hr, hlocks⟩ := id C.X
  refine ts_case (0) (fun _ => ?_) (fun t_0 => ?_)
  · refine lv_tableIn (tgt := 144) hx hb dL_law_42 (by decide) (by decide) rfl (by decide) ?_
    exact law_fold C I hi hP hD hS hl kk
  refine ts_case (1) (fun _ => ?_) (fun t_1 => ?_)
  · refine lv_tableIn (tgt := 177) hx hb dL_law_42 (by decide) (by decide) rfl (by decide) ?_
    exact law_letter C I hi hP hD hS hl kk
  refine ts_case (2) (fun _ => ?_) (fun t_2 => ?_)
  · refine lv_tableIn (tgt := 200) hx hb dL_law_42 (by decide) (by decide) rfl (by decide) ?_
    exact law_c_word C I hi hP hD hS hl kk
  refine ts_case (3) (fun _ => ?_) (fun t_3 => ?_)
  · refine lv_tableIn (tgt := 233) hx hb dL_law_42 (by decide) (by decide) rfl (by decide) ?_
    exact law_c_value C I hi hP hD hS hl kk
  refine ts_case (4) (fun _ => ?_) (fun t_4 => ?_)
  · refine lv_tableIn (tgt := 266) hx hb dL_law_42 (by decide) (by decide) rfl (by decide) ?_
    exact law_c_plural C I hi hP hD hS hl kk
  refine ts_case (5) (fun _ => ?_) (fun t_5 => ?_)
  · refine lv_tableIn (tgt := 299) hx hb dL_law_42 (by decide) (by decide) rfl (by decide) ?_
    exact law_c_join C I hi hP hD hS hl kk
  refine ts_case (6) (fun _ => ?_) (fun t_6 => ?_)
  · refine lv_tableIn (tgt := 332) hx hb dL_law_42 (by decide) (by decide) rfl (by decide) ?_
    exact law_type C I hi hP hD hS hl kk
  refine ts_case (7) (fun _ => ?_) (fun t_7 => ?_)
  · refine lv_tableIn (tgt := 355) hx hb dL_law_42 (by decide) (by decide) rfl (by decide) ?_
    exact law_c_read C I hi hP hD hS hl kk
  refine ts_case (8) (fun _ => ?_) (fun t_8 => ?_)
  · refine lv_tableIn (tgt := 378) hx hb dL_law_42 (by decide) (by decide) rfl (by decide) ?_
    exact law_token C I hi hP hD hS hl kk
  refine ts_case (9) (fun _ => ?_) (fun t_9 => ?_)
  · refine lv_tableIn (tgt := 411) hx hb dL_law_42 (by decide) (by decide) rfl (by decide) ?_
    exact law_at C I hi hP hD hS hl kk
  refine ts_case (10) (fun _ => ?_) (fun t_10 => ?_)
  · refine lv_tableIn (tgt := 444) hx hb dL_law_42 (by decide) (by decide) rfl (by decide) ?_
    exact law_amount C I hi hP hD hS hl kk
  refine ts_case (11) (fun _ => ?_) (fun t_11 => ?_)
  · refine lv_tableIn (tgt := 467) hx hb dL_law_42 (by decide) (by decide) rfl (by decide) ?_
    exact law_amountLength C I hi hP hD hS hl kk
  refine ts_case (12) (fun _ => ?_) (fun t_12 => ?_)
  · refine lv_tableIn (tgt := 490) hx hb dL_law_42 (by decide) (by decide) rfl (by decide) ?_
    exact law_thing C I hi hP hD hS hl kk
  refine ts_case (13) (fun _ => ?_) (fun t_13 => ?_)
  · refine lv_tableIn (tgt := 503) hx hb dL_law_42 (by decide) (by decide) rfl (by decide) ?_
    exact law_means C I hi hP hD hS hl kk
  refine ts_case (14) (fun _ => ?_) (fun t_14 => ?_)
  · refine lv_tableIn (tgt := 546) hx hb dL_law_42 (by decide) (by decide) rfl (by decide) ?_
    exact law_c_flag C I hi hP hD hS hl kk
  refine ts_case (15) (fun _ => ?_) (fun t_15 => ?_)
  · refine lv_tableIn (tgt := 595) hx hb dL_law_42 (by decide) (by decide) rfl (by decide) ?_
    exact law_c_refer C I hi hP hD hS hl kk
  refine ts_case (16) (fun _ => ?_) (fun t_16 => ?_)
  · refine lv_tableIn (tgt := 628) hx hb dL_law_42 (by decide) (by decide) rfl (by decide) ?_
    exact law_meant C I hi hP hD hS hl kk
  refine ts_case (17) (fun _ => ?_) (fun t_17 => ?_)
  · refine lv_tableIn (tgt := 651) hx hb dL_law_42 (by decide) (by decide) rfl (by decide) ?_
    exact law_phrase C I hi hP hD hS hl kk
  refine ts_case (18) (fun _ => ?_) (fun t_18 => ?_)
  · refine lv_tableIn (tgt := 674) hx hb dL_law_42 (by decide) (by decide) rfl (by decide) ?_
    exact law_phraseLength C I hi hP hD hS hl kk
  refine ts_case (19) (fun _ => ?_) (fun t_19 => ?_)
  · refine lv_tableIn (tgt := 697) hx hb dL_law_42 (by decide) (by decide) rfl (by decide) ?_
    exact law_about C I hi hP hD hS hl kk
  refine ts_case (20) (fun _ => ?_) (fun t_20 => ?_)
  · refine lv_tableIn (tgt := 730) hx hb dL_law_42 (by decide) (by decide) rfl (by decide) ?_
    exact law_equal C I hi hP hD hS hl kk
  refine ts_case (21) (fun _ => ?_) (fun t_21 => ?_)
  · refine lv_tableIn (tgt := 763) hx hb dL_law_42 (by decide) (by decide) rfl (by decide) ?_
    exact law_told C I hi hP hD hS hl kk
  refine lv_tableOut (tgt := 786) hx hb dL_law_42 (by have := lv_neT t_0 (a := 0) (by decide); have := lv_neT t_1 (a := 1) (by decide); have := lv_neT t_2 (a := 2) (by decide); have := lv_neT t_3 (a := 3) (by decide); have := lv_neT t_4 (a := 4) (by decide); have := lv_neT t_5 (a := 5) (by decide); have := lv_neT t_6 (a := 6) (by decide); have := lv_neT t_7 (a := 7) (by decide); have := lv_neT t_8 (a := 8) (by decide); have := lv_neT t_9 (a := 9) (by decide); have := lv_neT t_10 (a := 10) (by decide); have := lv_neT t_11 (a := 11) (by decide); have := lv_neT t_12 (a := 12) (by decide); have := lv_neT t_13 (a := 13) (by decide); have := lv_neT t_14 (a := 14) (by decide); have := lv_neT t_15 (a := 15) (by decide); have := lv_neT t_16 (a := 16) (by decide); have := lv_neT t_17 (a := 17) (by decide); have := lv_neT t_18 (a := 18) (by decide); have := lv_neT t_19 (a := 19) (by decide); have := lv_neT t_20 (a := 20) (by decide); have := lv_neT t_21 (a := 21) (by decide); omega) (by decide) ?_
  exact kk G I rfl rfl H locs hP hD hS
set_option maxRecDepth 100000 in
theorem law_loop {p : Program} {l : Launch} {en : Env} {s : State} {mi : MethodId} {below : List Frame} {meth : Method} {cd : Code} {b L : Nat} {xs : Nat → Int32} {D : va_G} {cI cJ cW : ClassId} {A : Nat → Prop} {Q : State → Prop} (C : LC p s mi meth cd b L xs D cI cJ cW A) (kend : ∀ (G : Gh) (H : Heap) (locs : List Loc) (ls : Array Slot), Inv cI G → va_S A s.heap H locs → W p l en room_1 s mi #[Value.ref b] below meth cd H locs (clG G) (slG G) Q (F0 mi 792 ls [])) :
    ∀ (fuel i : Nat), L + 4 - i < fuel → i ≤ L + 4 → ∀ G : Gh, Inv cI G → ∀ (H : Heap) (locs : List Loc), va_P D vwCl (gw cI cJ cW G) H → va_D A (gw cI cJ cW G) → va_S A s.heap H locs → ∀ ls : Array Slot, lv_has ls 4 [(0, .ref b), (1, .ref G.1.1.1.1.1.1), (2, .ref G.1.2.2.1.2.2.1), (3, .int (nI i))] → W p l en room_1 s mi #[Value.ref b] below meth cd H locs (clG G) (slG G) Q (F0 mi 28 ls []) := by
  obtain ⟨hx, hb, hml, hown, hts, hr, hlocks⟩ := id C.X
  have hL := C.hL
  intro fuel
  induction fuel with
  | zero => intro i h; exact absurd h (Nat.not_lt_zero _)
  | succ fuel ih =>
    intro i hf hiL G I H locs hP hD hS ls hl
    refine lv_iload_n hx hb dL_law_28 rfl (lv_at hl 3 rfl) ?_
    refine lv_aload_n hx hb dL_law_29 rfl (lv_at hl 0 rfl) ?_
    refine va_slen hx hb C.hX C.hbl C.hbA hS dL_law_30 ?_
    refine lv_iconst (v := 4) hx hb dL_law_31 (by decide) ?_
    refine lv_isub hx hb dL_law_32 ?_
    refine lv_icmp_gt (tgt := 792) hx hb dL_law_33 (by decide) (fun c_33 => ?_) (fun c_33 => ?_)
    · exact kend G H locs ls I hS
    · have hi : i + 3 < L := by
        have h1 : (nI L - nI 4).toInt = (L : Int) - 4 := pk_sub_toInt (a := L) (b := 4) (by omega) (by decide)
        have h2 : (nI i).toInt = (i : Int) := nI_toInt (by omega)
        have h3 : ¬ nI L - nI 4 < nI i := c_33
        rw [Int32.lt_iff_toInt_lt, h1, h2] at h3
        omega
      refine lv_aload_n hx hb dL_law_36 rfl (lv_at hl 0 rfl) ?_
      refine lv_iload_n hx hb dL_law_37 rfl (lv_at hl 3 rfl) ?_
      refine va_sld hx hb C.hX C.hbl C.hbA hS (vp_in_nI (show i < L by omega) (by omega)) dL_law_38 ?_
      refine lv_bipush (v := 31) hx hb dL_law_39 (by decide) ?_
      refine lv_iand hx hb dL_law_41 ?_
      refine law_step C I hi hP hD hS hl (fun G' I' ex em H locs hP hD hS => ?_)
      refine lv_iinc (v := nI (i + 4)) (lv' := [(3, _), (0, _), (1, _), (2, _)]) hx hb dL_law_786 hl (k := 3) rfl (nI_add i 4) (by decide) rfl (fun ls hl => ?_)
      refine lv_goto (tgt := 28) hx hb dL_law_789 (by decide) ?_
      exact ih (i + 4) (by omega) (by omega) G' I' H locs hP hD hS ls (by rw [ex, em]; exact lv_sub hl [1, 2, 3, 0] rfl)

