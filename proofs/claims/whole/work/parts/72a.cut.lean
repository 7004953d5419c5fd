/-! the two ways to cut a line come to the same tokens -/
theorem upd_at {f : Nat → Int32} {k i : Nat} {v : Int32} : upd f k v i = if i = k then v else f i := rfl
def adL (τ : TS) (o : Int32 × Int32 × Int32 × Int32) : TS := ad4 τ o.1 o.2.1 o.2.2.1 o.2.2.2
def tkG (nw n : Nat) (x1 x2 x3 x4 : Int32) : Prop := (x1 = 0 → ∃ j, j < nw ∧ x4 = nI j) ∧ ∃ p w, x2 = nI p ∧ x3 = nI w ∧ p + w ≤ n
def tkO (nw n : Nat) (o : Int32 × Int32 × Int32 × Int32) : Prop := tkG nw n o.1 o.2.1 o.2.2.1 o.2.2.2
def tsR (τ τ' : TS) : Prop := τ.1 = τ'.1 ∧ τ.2.1 = τ'.2.1 ∧ ∀ k i, i < τ.1 → τ.2.2 k i = τ'.2.2 k i
def tsG (nw n : Nat) (τ : TS) : Prop := τ.1 ≤ 24 ∧ ∀ i, i < τ.1 → tkG nw n (τ.2.2 1 i) (τ.2.2 2 i) (τ.2.2 3 i) (τ.2.2 4 i)
theorem adL_R {τ τ' : TS} {o : Int32 × Int32 × Int32 × Int32} (h : tsR τ τ') : tsR (adL τ o) (adL τ' o) := by
  obtain ⟨h1, h2, h3⟩ := h
  refine ⟨by simp only [adL, ad4, h1], by simp only [adL, ad4, h1, h2], fun k i hi => ?_⟩
  simp only [adL, ad4] at hi ⊢
  by_cases hc : τ.1 < 24
  · have hc' : τ'.1 < 24 := by omega
    simp only [adN, if_pos hc] at hi
    simp only [adF, if_pos hc, if_pos hc', upd_at, ← h1]
    by_cases he : i = τ.1
    · simp [he]
    · simp only [if_neg he]; exact h3 k i (by omega)
  · have hc' : ¬ τ'.1 < 24 := by omega
    simp only [adN, if_neg hc] at hi
    simp only [adF, if_neg hc, if_neg hc']
    exact h3 k i hi
theorem adL_G {nw n : Nat} {τ : TS} {o : Int32 × Int32 × Int32 × Int32} (h : tsG nw n τ) (ho : tkO nw n o) : tsG nw n (adL τ o) := by
  obtain ⟨h1, h2⟩ := h
  refine ⟨adN_le h1, fun i hi => ?_⟩
  simp only [adL, ad4] at hi ⊢
  by_cases hc : τ.1 < 24
  · simp only [adN, if_pos hc] at hi
    simp only [adF, if_pos hc, upd_at]
    by_cases he : i = τ.1
    · simp only [he, if_true]; exact ho
    · simp only [if_neg he]; exact h2 i (by omega)
  · simp only [adN, if_neg hc] at hi
    simp only [adF, if_neg hc]
    exact h2 i hi
theorem adL_m {τ : TS} {o : Int32 × Int32 × Int32 × Int32} (h : ¬ τ.2.1 = 0) : ¬ (adL τ o).2.1 = 0 := by
  simp only [adL, ad4, adM]
  split
  · exact h
  · decide
theorem fo_R {os : List (Int32 × Int32 × Int32 × Int32)} : ∀ {τ τ' : TS}, tsR τ τ' → tsR (os.foldl adL τ) (os.foldl adL τ') := by
  induction os with
  | nil => intro τ τ' h; exact h
  | cons o os ih => intro τ τ' h; exact ih (adL_R h)
theorem fo_G {nw n : Nat} {os : List (Int32 × Int32 × Int32 × Int32)} : ∀ {τ : TS}, tsG nw n τ → (∀ o ∈ os, tkO nw n o) → tsG nw n (os.foldl adL τ) := by
  induction os with
  | nil => intro τ h _; exact h
  | cons o os ih => intro τ h ho; exact ih (adL_G h (ho o List.mem_cons_self)) (fun o' h' => ho o' (List.mem_cons_of_mem _ h'))
theorem fo_m {os : List (Int32 × Int32 × Int32 × Int32)} : ∀ {τ : TS}, ¬ τ.2.1 = 0 → ¬ (os.foldl adL τ).2.1 = 0 := by
  induction os with
  | nil => intro τ h; exact h
  | cons o os ih => intro τ h; exact ih (adL_m h)
section CUTEQ
variable {fo : Nat → Int32} {fw : Int32 → Nat → Nat → Option Nat} {fj : Nat → Nat → Option Nat} {j1 j2 : Nat → Int32} {lg : Int32} {n nw : Nat} {L : Nat → Int32}
/-- what a step does: a place to go on from, and tokens that don't hang on those there -/
def stF (T : TS → Nat × TS) (nw n : Nat) : Prop := ∃ (q : Nat) (os : List (Int32 × Int32 × Int32 × Int32)), (∀ τ, T τ = (q, os.foldl adL τ)) ∧ ∀ o ∈ os, tkO nw n o
theorem st1 {nw n q : Nat} {x1 x2 x3 x4 : Int32} (h : tkG nw n x1 x2 x3 x4) : stF (fun τ => (q, ad4 τ x1 x2 x3 x4)) nw n := ⟨q, [(x1, x2, x3, x4)], fun τ => rfl, fun o ho => by
  rw [List.mem_singleton] at ho; subst ho; exact h⟩
theorem tk_pw {nw n p w : Nat} {x1 x4 : Int32} (h1 : x1 = 0 → ∃ j, j < nw ∧ x4 = nI j) (h : p + w ≤ n) : tkG nw n x1 (nI p) (nI w) x4 := ⟨h1, p, w, rfl, rfl, h⟩
theorem foC_neg1 : foC fo (-1) = -1 := by
  have h1 : (-1 : Int32) - 128 < 0 := by decide
  have h2 : (-1 : Int32) < 65 := by decide
  rw [foC, if_pos h1, foB, if_pos h2]
theorem st_t {p c : Nat} (hpc : p ≤ c) (h3 : sp isDi L n (c + 1) = c + 3) : stF (fun τ => tTok (foC fo) n L p c τ) nw n := by
  have hn : c + 3 ≤ n := by
    have h := (sp_dd (n := n) (c := c) (L := L)).mp h3
    rcases Nat.lt_or_ge (c + 2) n with q | q
    · omega
    · rw [bt_ge q] at h; exact absurd h.2.1 (by decide)
  by_cases hh : 1 ≤ numN L p (c - p) 0 ∧ numN L p (c - p) 0 ≤ 12 ∧ hdB (foC fo) n L (c + 3) = true
  · have hn5 : c + 5 ≤ n := by
      have h := hh.2.2
      simp only [hdB, Bool.and_eq_true, decide_eq_true_eq] at h
      rcases Nat.lt_or_ge (c + 4) n with q | q
      · omega
      · rw [bt_ge (show n ≤ c + 3 + 1 by omega), foC_neg1] at h; exact absurd h.1.2 (by decide)
    simp only [tTok, if_pos hh]
    exact st1 (tk_pw (fun h => absurd h (by decide)) (by omega))
  · simp only [tTok, if_neg hh]
    exact st1 (tk_pw (fun h => absurd h (by decide)) (by omega))
theorem st_d {p : Nat} (hp : p < n) : stF (fun τ => dTok (foC fo) n L p τ) nw n := by
  have e1 := sp_n (P := isDi) (L := L) (Nat.le_of_lt hp)
  have e2 := sp_le (P := isDi) (L := L) (n := n) (k := p)
  by_cases ht : tmB n L p (sp isDi L n p) = true
  · simp only [dTok, if_pos ht]
    simp only [tmB, Bool.and_eq_true, decide_eq_true_eq] at ht
    exact st_t e2 ht.1.1.2
  · simp only [dTok, if_neg ht]
    by_cases h3 : numN L p (sp isDi L n p - p) 0 ≤ 30000
    · simp only [if_pos h3]
      exact st1 (tk_pw (fun h => absurd h (by decide)) (by omega))
    · simp only [if_neg h3]
      exact st1 (tk_pw (fun h => absurd h (by decide)) (by omega))
theorem st_q {p : Nat} (hp : p < n) : stF (fun τ => qTok n L p τ) nw n := by
  have e1 := sp_n (P := nQu) (L := L) (show p + 1 ≤ n from hp)
  have e2 := sp_le (P := nQu) (L := L) (n := n) (k := p + 1)
  by_cases h : n ≤ sp nQu L n (p + 1)
  · simp only [qTok, if_pos h]
    exact st1 (tk_pw (fun h => absurd h (by decide)) (by omega))
  · simp only [qTok, if_neg h]
    exact st1 (tk_pw (fun h => absurd h (by decide)) (by omega))
theorem st_l {p : Nat} (hp : p < n) (hfw : ∀ g a b j, fw g a b = some j → j < nw) (hfj : ∀ a b j, fj a b = some j → (∃ i, i < nw ∧ j1 j = nI i) ∧ ∃ i, i < nw ∧ j2 j = nI i) : stF (fun τ => lTok fw fj j1 j2 lg n L p τ) nw n := by
  have e1 := sp_n (P := isLe) (L := L) (Nat.le_of_lt hp)
  have e2 := sp_le (P := isLe) (L := L) (n := n) (k := p)
  simp only [lTok]
  cases h1 : fw lg p (sp isLe L n p - p) with
  | some j => exact st1 (tk_pw (fun _ => ⟨j, hfw _ _ _ _ h1, rfl⟩) (by omega))
  | none =>
    cases h2 : fw 0 p (sp isLe L n p - p) with
    | some j => exact st1 (tk_pw (fun _ => ⟨j, hfw _ _ _ _ h2, rfl⟩) (by omega))
    | none =>
      cases h3 : fj p (sp isLe L n p - p) with
      | some j =>
        obtain ⟨g1, g2⟩ := hfj _ _ _ h3
        refine ⟨sp isLe L n p, [(0, nI p, nI (sp isLe L n p - p), j1 j), (0, nI p, nI (sp isLe L n p - p), j2 j)], fun τ => rfl, fun o ho => ?_⟩
        simp only [List.mem_cons, List.not_mem_nil, or_false] at ho
        rcases ho with rfl | rfl
        · exact tk_pw (fun _ => g1) (by omega)
        · exact tk_pw (fun _ => g2) (by omega)
      | none => exact st1 (tk_pw (fun h => absurd h (by decide)) (by omega))
theorem st_a {p : Nat} (hp : p < n) (hfw : ∀ g a b j, fw g a b = some j → j < nw) (hfj : ∀ a b j, fj a b = some j → (∃ i, i < nw ∧ j1 j = nI i) ∧ ∃ i, i < nw ∧ j2 j = nI i) : stF (fun τ => aTok (foC fo) fw fj j1 j2 lg n L p τ) nw n := by
  have e1 := sp_n (P := isOt) (L := L) (show p + 1 ≤ n from hp)
  have e2 := sp_le (P := isOt) (L := L) (n := n) (k := p + 1)
  unfold aTok
  by_cases h1 : L p = 32
  · simp only [if_pos h1]
    exact ⟨p + 1, [], fun τ => rfl, fun o ho => by cases ho⟩
  simp only [if_neg h1]
  by_cases h2 : isLe (L p) = true
  · simp only [if_pos h2]; exact st_l hp hfw hfj
  simp only [if_neg h2]
  by_cases h3 : isDi (L p) = true
  · simp only [if_pos h3]; exact st_d hp
  simp only [if_neg h3]
  by_cases h4 : L p = 34
  · simp only [if_pos h4]; exact st_q hp
  simp only [if_neg h4]
  by_cases h5 : isMk (L p) = true
  · simp only [if_pos h5]
    exact st1 (tk_pw (w := 1) (fun h => absurd h (by decide)) (by omega))
  · simp only [if_neg h5, oTok]
    exact st1 (tk_pw (fun h => absurd h (by decide)) (by omega))
theorem cutL_m (hfw : ∀ g a b j, fw g a b = some j → j < nw) (hfj : ∀ a b j, fj a b = some j → (∃ i, i < nw ∧ j1 j = nI i) ∧ ∃ i, i < nw ∧ j2 j = nI i) : ∀ (m p : Nat) (τ : TS), ¬ τ.2.1 = 0 → ¬ (cutL (foC fo) fw fj j1 j2 lg n L m p τ).2.1 = 0
  | 0, p, τ, h => h
  | m + 1, p, τ, h => by
    rw [cutL]
    by_cases hp : p < n
    · rw [if_pos hp]
      obtain ⟨q, os, e, -⟩ := st_a (fo := fo) (lg := lg) (L := L) hp hfw hfj
      have e := e τ
      simp only at e
      rw [e]
      exact cutL_m hfw hfj m q _ (fo_m h)
    · rw [if_neg hp]; exact h
theorem cutL_G (hfw : ∀ g a b j, fw g a b = some j → j < nw) (hfj : ∀ a b j, fj a b = some j → (∃ i, i < nw ∧ j1 j = nI i) ∧ ∃ i, i < nw ∧ j2 j = nI i) : ∀ (m p : Nat) (τ : TS), tsG nw n τ → tsG nw n (cutL (foC fo) fw fj j1 j2 lg n L m p τ)
  | 0, p, τ, h => h
  | m + 1, p, τ, h => by
    rw [cutL]
    by_cases hp : p < n
    · rw [if_pos hp]
      obtain ⟨q, os, e, ho⟩ := st_a (fo := fo) (lg := lg) (L := L) hp hfw hfj
      have e := e τ
      simp only at e
      rw [e]
      exact cutL_G hfw hfj m q _ (fo_G h ho)
    · rw [if_neg hp]; exact h
theorem cut_R (hfw : ∀ g a b j, fw g a b = some j → j < nw) (hfj : ∀ a b j, fj a b = some j → (∃ i, i < nw ∧ j1 j = nI i) ∧ ∃ i, i < nw ∧ j2 j = nI i) : ∀ (m p : Nat) (τ τ' : TS), tsR τ τ' → τ.2.1 = 0 → ((cutL (foC fo) fw fj j1 j2 lg n L m p τ).2.1 = 0 ↔ (cutM (foC fo) fw fj j1 j2 lg n L m p τ').2.1 = 0) ∧ ((cutL (foC fo) fw fj j1 j2 lg n L m p τ).2.1 = 0 → tsR (cutL (foC fo) fw fj j1 j2 lg n L m p τ) (cutM (foC fo) fw fj j1 j2 lg n L m p τ'))
  | 0, p, τ, τ', h, h0 => by
    rw [cutL, cutM]
    exact ⟨by rw [h.2.1], fun _ => h⟩
  | m + 1, p, τ, τ', h, h0 => by
    have h0' : τ'.2.1 = 0 := h.2.1 ▸ h0
    rw [cutL, cutM]
    by_cases hp : p < n
    · rw [if_pos hp, if_pos ⟨hp, h0'⟩]
      obtain ⟨q, os, e, ho⟩ := st_a (fo := fo) (lg := lg) (L := L) hp hfw hfj
      have e1 := e τ
      have e2 := e τ'
      simp only at e1 e2
      rw [e1, e2]
      have hr := fo_R (os := os) h
      by_cases hm : (os.foldl adL τ).2.1 = 0
      · exact cut_R hfw hfj m q _ _ hr hm
      · have hm' : ¬ (os.foldl adL τ').2.1 = 0 := hr.2.1 ▸ hm
        have a1 := cutL_m (fo := fo) (lg := lg) (L := L) (n := n) hfw hfj m q _ hm
        simp only
        rw [cutM_end (fun z => hm' z.2)]
        exact ⟨⟨fun z => absurd z a1, fun z => absurd z hm'⟩, fun z => absurd z a1⟩
    · rw [if_neg hp, if_neg (fun z => hp z.1)]
      exact ⟨by rw [h.2.1], fun _ => h⟩
end CUTEQ
