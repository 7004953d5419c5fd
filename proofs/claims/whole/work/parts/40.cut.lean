/-! the line cut into tokens: what both sides come to -/
def isDi (c : Int32) : Bool := !decide (c < 48) && !decide (57 < c)
def isMk (c : Int32) : Bool := decide (c = 46) || decide (c = 44) || decide (c = 59) || decide (c = 33) || decide (c = 63)
def isOt (c : Int32) : Bool := !decide (c = 32) && !decide (c = 34) && !isMk c && !isDi c && !isLe c
def nQu (c : Int32) : Bool := !decide (c = 34)
def bt (n : Nat) (L : Nat → Int32) (k : Nat) : Int32 := if k < n then L k else -1
theorem rowAt_bt {n k : Nat} {L : Nat → Int32} (hn : n ≤ 80) (hk : k < 2 ^ 31) : rowAt (nI n) 80 L (nI k) = bt n L k := by
  by_cases h : k < n
  · rw [rowAt_lt h (by omega) (by omega) (by decide), bt, if_pos h]
  · have h1 : ¬ nI k < 0 := nI_pos hk
    have h2 : nI n ≤ nI k := nI_le (by omega) hk
    simp [rowAt, bt, h, h1, h2]
def spF (P : Int32 → Bool) (L : Nat → Int32) : Nat → Nat → Nat
  | k, 0 => k
  | k, m + 1 => if P (L k) = true then spF P L (k + 1) m else k
def sp (P : Int32 → Bool) (L : Nat → Int32) (n k : Nat) : Nat := spF P L k (n - k)
theorem sp_ge {P : Int32 → Bool} {L : Nat → Int32} {n k : Nat} (h : n ≤ k) : sp P L n k = k := by
  rw [sp, Nat.sub_eq_zero_of_le h, spF]
theorem sp_t {P : Int32 → Bool} {L : Nat → Int32} {n k : Nat} (h : k < n) (hp : P (L k) = true) : sp P L n k = sp P L n (k + 1) := by
  rw [sp, sp, show n - k = (n - (k + 1)) + 1 by omega, spF, if_pos hp]
theorem sp_f {P : Int32 → Bool} {L : Nat → Int32} {n k : Nat} (h : k < n) (hp : P (L k) = false) : sp P L n k = k := by
  rw [sp, show n - k = (n - (k + 1)) + 1 by omega, spF, if_neg (by rw [hp]; exact Bool.false_ne_true)]
theorem spF_le {P : Int32 → Bool} {L : Nat → Int32} : ∀ m k, k ≤ spF P L k m ∧ spF P L k m ≤ k + m
  | 0, k => ⟨Nat.le_refl _, Nat.le_refl _⟩
  | m + 1, k => by
    rw [spF]
    split
    · have := spF_le (P := P) (L := L) m (k + 1); omega
    · omega
theorem sp_le {P : Int32 → Bool} {L : Nat → Int32} {n k : Nat} : k ≤ sp P L n k := (spF_le _ _).1
theorem sp_n {P : Int32 → Bool} {L : Nat → Int32} {n k : Nat} (h : k ≤ n) : sp P L n k ≤ n := by
  have := (spF_le (P := P) (L := L) (n - k) k).2
  rw [sp]; omega
theorem spF_all {P : Int32 → Bool} {L : Nat → Int32} : ∀ m k i, k ≤ i → i < spF P L k m → P (L i) = true
  | 0, k, i, h1, h2 => by rw [spF] at h2; omega
  | m + 1, k, i, h1, h2 => by
    rw [spF] at h2
    by_cases hp : P (L k) = true
    · rw [if_pos hp] at h2
      by_cases hi : i = k
      · rw [hi]; exact hp
      · exact spF_all m (k + 1) i (by omega) h2
    · rw [if_neg hp] at h2; omega
theorem sp_all {P : Int32 → Bool} {L : Nat → Int32} {n k i : Nat} (h1 : k ≤ i) (h2 : i < sp P L n k) : P (L i) = true := spF_all _ _ _ h1 h2
theorem spF_stop {P : Int32 → Bool} {L : Nat → Int32} : ∀ m k, spF P L k m < k + m → P (L (spF P L k m)) = false
  | 0, k, h => by rw [spF] at h; omega
  | m + 1, k, h => by
    rw [spF] at h ⊢
    by_cases hp : P (L k) = true
    · rw [if_pos hp] at h ⊢
      exact spF_stop m (k + 1) (by omega)
    · rw [if_neg hp]
      exact Bool.eq_false_iff.mpr hp
theorem sp_stop {P : Int32 → Bool} {L : Nat → Int32} {n k : Nat} (hk : k ≤ n) (h : sp P L n k < n) : P (L (sp P L n k)) = false := spF_stop _ _ (by rw [sp] at h; omega)
def dgN (c : Int32) : Nat := (c - 48).toNatClampNeg
theorem dg_of {c : Int32} (h : isDi c = true) : ∃ d, d ≤ 9 ∧ c = nI (48 + d) ∧ dgN c = d := by
  simp only [isDi, Bool.and_eq_true, Bool.not_eq_true', decide_eq_false_iff_not] at h
  obtain ⟨j, hj, rfl⟩ := nI_of2 (x := c) (M := 57) (n := 57) (by decide) (fun q => h.1 (by rw [Int32.lt_iff_toInt_lt] at *; have : (0 : Int32).toInt = 0 := rfl; have : (48 : Int32).toInt = 48 := rfl; omega)) (by rw [Int32.le_iff_toInt_le]; have := h.2; rw [Int32.lt_iff_toInt_lt] at this; omega)
  have h48 : 48 ≤ j := by
    rcases Nat.lt_or_ge j 48 with q | q
    · exact absurd (nI_lt (b := 48) q (by decide)) h.1
    · exact q
  refine ⟨j - 48, by omega, by rw [show 48 + (j - 48) = j by omega], ?_⟩
  rw [dgN, show (48 : Int32) = nI 48 from rfl, pk_sub h48, nI_clamp (by omega)]
def numN (L : Nat → Int32) : Nat → Nat → Nat → Nat
  | _, 0, v => v
  | k, m + 1, v => numN L (k + 1) m (10 * v + dgN (L k))
abbrev TS : Type := Nat × Int32 × (Nat → Nat → Int32)
def ad4 (τ : TS) (x1 x2 x3 x4 : Int32) : TS := (adN τ.1, adM τ.1 τ.2.1, fun i => adF (τ.2.2 i) τ.1 (if i = 1 then x1 else if i = 2 then x2 else if i = 3 then x3 else x4))
theorem adN_le {tc : Nat} (h : tc ≤ 24) : adN tc ≤ 24 := by unfold adN; split <;> omega
theorem ad4_le {τ : TS} {x1 x2 x3 x4 : Int32} (h : τ.1 ≤ 24) : (ad4 τ x1 x2 x3 x4).1 ≤ 24 := adN_le h
def tmB (n : Nat) (L : Nat → Int32) (p c : Nat) : Bool := decide (c - p ≤ 2) && decide (bt n L c = 58) && decide (sp isDi L n (c + 1) = c + 3) && decide (numN L p (c - p) 0 ≤ 23) && decide (numN L (c + 1) 2 0 ≤ 59)
def hdB (fo : Int32 → Int32) (n : Nat) (L : Nat → Int32) (e : Nat) : Bool := (decide (fo (bt n L e) = 97) || decide (fo (bt n L e) = 112)) && decide (fo (bt n L (e + 1)) = 109) && !isLe (bt n L (e + 2))
/-- a time at p, its colon at c -/
def tTok (fo : Int32 → Int32) (n : Nat) (L : Nat → Int32) (p c : Nat) (τ : TS) : Nat × TS :=
  let h := numN L p (c - p) 0
  let mi := numN L (c + 1) 2 0
  if 1 ≤ h ∧ h ≤ 12 ∧ hdB fo n L (c + 3) = true then (c + 5, ad4 τ 3 (nI p) (nI (c + 5 - p)) (nI (60 * ((if h = 12 then 0 else h) + (if fo (bt n L (c + 3)) = 112 then 12 else 0)) + mi)))
  else (c + 3, ad4 τ 3 (nI p) (nI (c + 3 - p)) (nI (60 * h + mi)))
def dTok (fo : Int32 → Int32) (n : Nat) (L : Nat → Int32) (p : Nat) (τ : TS) : Nat × TS :=
  let e := sp isDi L n p
  if tmB n L p e = true then tTok fo n L p e τ
  else if numN L p (e - p) 0 ≤ 30000 then (e, ad4 τ 2 (nI p) (nI (e - p)) (nI (numN L p (e - p) 0)))
  else (e, ad4 τ 6 (nI p) (nI (e - p)) (-1))
def qTok (n : Nat) (L : Nat → Int32) (p : Nat) (τ : TS) : Nat × TS :=
  let e := sp nQu L n (p + 1)
  if n ≤ e then (e, ad4 τ 6 (nI p) (nI (e - p)) (-1)) else (e + 1, ad4 τ 4 (nI p) (nI (e + 1 - p)) (nI (e - p - 1)))
def oTok (n : Nat) (L : Nat → Int32) (p : Nat) (τ : TS) : Nat × TS :=
  let e := sp isOt L n (p + 1)
  (e, ad4 τ 6 (nI p) (nI (e - p)) (-1))
def lTok (fw : Int32 → Nat → Nat → Option Nat) (fj : Nat → Nat → Option Nat) (j1 j2 : Nat → Int32) (lg : Int32) (n : Nat) (L : Nat → Int32) (p : Nat) (τ : TS) : Nat × TS :=
  let e := sp isLe L n p
  match fw lg p (e - p) with
  | some j => (e, ad4 τ 0 (nI p) (nI (e - p)) (nI j))
  | none => match fw 0 p (e - p) with
    | some j => (e, ad4 τ 0 (nI p) (nI (e - p)) (nI j))
    | none => match fj p (e - p) with
      | some j => (e, ad4 (ad4 τ 0 (nI p) (nI (e - p)) (j1 j)) 0 (nI p) (nI (e - p)) (j2 j))
      | none => (e, ad4 τ 1 (nI p) (nI (e - p)) (-1))
def aTok (fo : Int32 → Int32) (fw : Int32 → Nat → Nat → Option Nat) (fj : Nat → Nat → Option Nat) (j1 j2 : Nat → Int32) (lg : Int32) (n : Nat) (L : Nat → Int32) (p : Nat) (τ : TS) : Nat × TS :=
  if L p = 32 then (p + 1, τ) else if isLe (L p) = true then lTok fw fj j1 j2 lg n L p τ else if isDi (L p) = true then dTok fo n L p τ else if L p = 34 then qTok n L p τ
  else if isMk (L p) = true then (p + 1, ad4 τ 5 (nI p) (nI 1) (L p)) else oTok n L p τ
def cutL (fo : Int32 → Int32) (fw : Int32 → Nat → Nat → Option Nat) (fj : Nat → Nat → Option Nat) (j1 j2 : Nat → Int32) (lg : Int32) (n : Nat) (L : Nat → Int32) : Nat → Nat → TS → TS
  | 0, _, τ => τ
  | m + 1, p, τ => if p < n then cutL fo fw fj j1 j2 lg n L m (aTok fo fw fj j1 j2 lg n L p τ).1 (aTok fo fw fj j1 j2 lg n L p τ).2 else τ
theorem nI_sub1 {e p : Nat} (h : p ≤ e) : nI e - nI p = nI (e - p) := pk_sub h
theorem tTok_le {fo : Int32 → Int32} {n : Nat} {L : Nat → Int32} {p c : Nat} {τ : TS} (h : τ.1 ≤ 24) : (tTok fo n L p c τ).2.1 ≤ 24 := by
  simp only [tTok]; split <;> exact ad4_le h
theorem dTok_le {fo : Int32 → Int32} {n : Nat} {L : Nat → Int32} {p : Nat} {τ : TS} (h : τ.1 ≤ 24) : (dTok fo n L p τ).2.1 ≤ 24 := by
  simp only [dTok]; split
  · exact tTok_le h
  · split <;> exact ad4_le h
theorem lTok_le {fw : Int32 → Nat → Nat → Option Nat} {fj : Nat → Nat → Option Nat} {j1 j2 : Nat → Int32} {lg : Int32} {n : Nat} {L : Nat → Int32} {p : Nat} {τ : TS} (h : τ.1 ≤ 24) : (lTok fw fj j1 j2 lg n L p τ).2.1 ≤ 24 := by
  simp only [lTok]; split
  · exact ad4_le h
  · split
    · exact ad4_le h
    · split
      · exact ad4_le (ad4_le h)
      · exact ad4_le h
theorem aTok_le {fo : Int32 → Int32} {fw : Int32 → Nat → Nat → Option Nat} {fj : Nat → Nat → Option Nat} {j1 j2 : Nat → Int32} {lg : Int32} {n : Nat} {L : Nat → Int32} {p : Nat} {τ : TS} (h : τ.1 ≤ 24) : (aTok fo fw fj j1 j2 lg n L p τ).2.1 ≤ 24 := by
  unfold aTok
  repeat' split
  · exact h
  · exact lTok_le h
  · exact dTok_le h
  · simp only [qTok]; split <;> exact ad4_le h
  · exact ad4_le h
  · exact ad4_le h
theorem tm_sp {n : Nat} {L : Nat → Int32} {p c : Nat} (h : tmB n L p c = true) : sp isDi L n (c + 1) = c + 3 ∧ c + 3 ≤ n := by
  simp only [tmB, Bool.and_eq_true, decide_eq_true_eq] at h
  have h1 := h.1.1.2
  refine ⟨h1, ?_⟩
  rcases Nat.lt_or_ge n (c + 1) with q | q
  · rw [sp_ge (by omega)] at h1; omega
  · have := sp_n (P := isDi) (L := L) (n := n) (k := c + 1) q; omega
theorem hd_le {fo : Nat → Int32} {n : Nat} {L : Nat → Int32} {e : Nat} (h : hdB (foC fo) n L e = true) : e + 2 ≤ n := by
  simp only [hdB, Bool.and_eq_true, decide_eq_true_eq] at h
  have h1 := h.1.2
  rcases Nat.lt_or_ge (e + 1) n with q | q
  · omega
  · rw [bt, if_neg (by omega)] at h1
    exact absurd h1 (by simp [foC, foB])

set_option maxHeartbeats 1000000 in
set_option maxRecDepth 100000 in
theorem c_X1_isDigit {l : Launch} {D : va_G} {cI cJ cW : ClassId} {x : Int32}  : RO l yX1_isDigit wsX1_isDigit { frames := 0, cells := 0, slots := 0, locals := 0 } D (ty3 cI cJ cW) [.int x] [] (.int (bI (isDi x))) := by
  refine ro_of (cc := cX1_isDigit) (maxL := 1) (ret := (some .boolean)) (by decide) rfl (Nat.le_of_ble_eq_true rfl) ?_
  intro pr en ss mi below meth cd X hP hK ls hl
  obtain ⟨hx, hb, hml, hown, hts, hr, hlocks⟩ := id X
  have hl : lv_has ls 1 [(0, .int x)] := hl
  refine lv_iload_n hx hb dX1_isDigit_0 rfl (lv_at hl 0 rfl) ?_
  refine lv_bipush (v := 48) hx hb dX1_isDigit_1 (by decide) ?_
  refine lv_icmp_lt (tgt := 16) hx hb dX1_isDigit_3 (by decide) (fun c_3 => ?_) (fun c_3 => ?_)
  · refine lv_iconst (v := 0) hx hb dX1_isDigit_16 (by decide) ?_
    exact ro_zret X (by simp [isDi, bI, c_3]) dX1_isDigit_17
  · refine lv_iload_n hx hb dX1_isDigit_6 rfl (lv_at hl 0 rfl) ?_
    refine lv_bipush (v := 57) hx hb dX1_isDigit_7 (by decide) ?_
    refine lv_icmp_gt (tgt := 16) hx hb dX1_isDigit_9 (by decide) (fun c_9 => ?_) (fun c_9 => ?_)
    · refine lv_iconst (v := 0) hx hb dX1_isDigit_16 (by decide) ?_
      exact ro_zret X (by simp [isDi, bI, c_3, c_9]) dX1_isDigit_17
    · refine lv_iconst (v := 1) hx hb dX1_isDigit_12 (by decide) ?_
      refine lv_goto (tgt := 17) hx hb dX1_isDigit_13 (by decide) ?_
      exact ro_zret X (by simp [isDi, bI, c_3, c_9]) dX1_isDigit_17

set_option maxHeartbeats 1000000 in
set_option maxRecDepth 100000 in
theorem c_X1_isMark {l : Launch} {D : va_G} {cI cJ cW : ClassId} {x : Int32}  : RO l yX1_isMark wsX1_isMark { frames := 0, cells := 0, slots := 0, locals := 0 } D (ty3 cI cJ cW) [.int x] [] (.int (bI (isMk x))) := by
  refine ro_of (cc := cX1_isMark) (maxL := 1) (ret := (some .boolean)) (by decide) rfl (Nat.le_of_ble_eq_true rfl) ?_
  intro pr en ss mi below meth cd X hP hK ls hl
  obtain ⟨hx, hb, hml, hown, hts, hr, hlocks⟩ := id X
  have hl : lv_has ls 1 [(0, .int x)] := hl
  refine lv_iload_n hx hb dX1_isMark_0 rfl (lv_at hl 0 rfl) ?_
  refine lv_bipush (v := 46) hx hb dX1_isMark_1 (by decide) ?_
  refine lv_icmp_eq (tgt := 30) hx hb dX1_isMark_3 (by decide) (fun c_3 => ?_) (fun c_3 => ?_)
  · refine lv_iconst (v := 1) hx hb dX1_isMark_30 (by decide) ?_
    refine lv_goto (tgt := 35) hx hb dX1_isMark_31 (by decide) ?_
    exact ro_zret X (by simp [isMk, bI, c_3]) dX1_isMark_35
  · refine lv_iload_n hx hb dX1_isMark_6 rfl (lv_at hl 0 rfl) ?_
    refine lv_bipush (v := 44) hx hb dX1_isMark_7 (by decide) ?_
    refine lv_icmp_eq (tgt := 30) hx hb dX1_isMark_9 (by decide) (fun c_9 => ?_) (fun c_9 => ?_)
    · refine lv_iconst (v := 1) hx hb dX1_isMark_30 (by decide) ?_
      refine lv_goto (tgt := 35) hx hb dX1_isMark_31 (by decide) ?_
      exact ro_zret X (by simp [isMk, bI, c_3, c_9]) dX1_isMark_35
    · refine lv_iload_n hx hb dX1_isMark_12 rfl (lv_at hl 0 rfl) ?_
      refine lv_bipush (v := 59) hx hb dX1_isMark_13 (by decide) ?_
      refine lv_icmp_eq (tgt := 30) hx hb dX1_isMark_15 (by decide) (fun c_15 => ?_) (fun c_15 => ?_)
      · refine lv_iconst (v := 1) hx hb dX1_isMark_30 (by decide) ?_
        refine lv_goto (tgt := 35) hx hb dX1_isMark_31 (by decide) ?_
        exact ro_zret X (by simp [isMk, bI, c_3, c_9, c_15]) dX1_isMark_35
      · refine lv_iload_n hx hb dX1_isMark_18 rfl (lv_at hl 0 rfl) ?_
        refine lv_bipush (v := 33) hx hb dX1_isMark_19 (by decide) ?_
        refine lv_icmp_eq (tgt := 30) hx hb dX1_isMark_21 (by decide) (fun c_21 => ?_) (fun c_21 => ?_)
        · refine lv_iconst (v := 1) hx hb dX1_isMark_30 (by decide) ?_
          refine lv_goto (tgt := 35) hx hb dX1_isMark_31 (by decide) ?_
          exact ro_zret X (by simp [isMk, bI, c_3, c_9, c_15, c_21]) dX1_isMark_35
        · refine lv_iload_n hx hb dX1_isMark_24 rfl (lv_at hl 0 rfl) ?_
          refine lv_bipush (v := 63) hx hb dX1_isMark_25 (by decide) ?_
          refine lv_icmp_ne (tgt := 34) hx hb dX1_isMark_27 (by decide) (fun c_27 => ?_) (fun c_27 => ?_)
          · refine lv_iconst (v := 0) hx hb dX1_isMark_34 (by decide) ?_
            exact ro_zret X (by simp [isMk, bI, c_3, c_9, c_15, c_21, c_27]) dX1_isMark_35
          · refine lv_iconst (v := 1) hx hb dX1_isMark_30 (by decide) ?_
            refine lv_goto (tgt := 35) hx hb dX1_isMark_31 (by decide) ?_
            exact ro_zret X (by simp [isMk, bI, c_3, c_9, c_15, c_21, c_27]) dX1_isMark_35

set_option maxHeartbeats 1000000 in
set_option maxRecDepth 100000 in
theorem c_X1_isOther {l : Launch} {D : va_G} {cI cJ cW : ClassId} {x : Int32}  : RO l yX1_isOther wsX1_isOther { frames := 2, cells := 0, slots := 0, locals := 40 } D (ty3 cI cJ cW) [.int x] [] (.int (bI (isOt x))) := by
  refine ro_of (cc := cX1_isOther) (maxL := 1) (ret := (some .boolean)) (by decide) rfl (Nat.le_of_ble_eq_true rfl) ?_
  intro pr en ss mi below meth cd X hP hK ls hl
  obtain ⟨hx, hb, hml, hown, hts, hr, hlocks⟩ := id X
  have hl : lv_has ls 1 [(0, .int x)] := hl
  refine lv_iload_n hx hb dX1_isOther_0 rfl (lv_at hl 0 rfl) ?_
  refine lv_bipush (v := 32) hx hb dX1_isOther_1 (by decide) ?_
  refine lv_icmp_eq (tgt := 37) hx hb dX1_isOther_3 (by decide) (fun c_3 => ?_) (fun c_3 => ?_)
  · refine lv_iconst (v := 0) hx hb dX1_isOther_37 (by decide) ?_
    exact ro_zret X (by simp [isOt, bI, c_3]) dX1_isOther_38
  · refine lv_iload_n hx hb dX1_isOther_6 rfl (lv_at hl 0 rfl) ?_
    refine lv_bipush (v := 34) hx hb dX1_isOther_7 (by decide) ?_
    refine lv_icmp_eq (tgt := 37) hx hb dX1_isOther_9 (by decide) (fun c_9 => ?_) (fun c_9 => ?_)
    · refine lv_iconst (v := 0) hx hb dX1_isOther_37 (by decide) ?_
      exact ro_zret X (by simp [isOt, bI, c_3, c_9]) dX1_isOther_38
    · refine lv_iload_n hx hb dX1_isOther_12 rfl (lv_at hl 0 rfl) ?_
      refine ro_S (n := 1) X hK (c_X1_isMark) gX1_isOther_X1_isMark rfl (by decide +kernel) ⟨rfl, rfl⟩ ⟨Nat.le_of_ble_eq_true rfl, Nat.le_of_ble_eq_true rfl⟩ (hP.sub [] rfl) rfl hl.1 rfl (Nat.le_of_ble_eq_true rfl) dX1_isOther_13 ⟨Nat.zero_le _, Nat.zero_le _⟩ ?_
      refine lv_if_ne (tgt := 37) hx hb dX1_isOther_16 (by decide) (fun c_16 => ?_) (fun c_16 => ?_)
      · replace c_16 := bI_n0.mp c_16
        refine lv_iconst (v := 0) hx hb dX1_isOther_37 (by decide) ?_
        exact ro_zret X (by simp [isOt, bI, c_3, c_9, c_16]) dX1_isOther_38
      · replace c_16 := bI_0.mp c_16
        refine lv_iload_n hx hb dX1_isOther_19 rfl (lv_at hl 0 rfl) ?_
        refine ro_S (n := 1) X hK (c_X1_isDigit) gX1_isOther_X1_isDigit rfl (by decide +kernel) ⟨rfl, rfl⟩ ⟨Nat.le_of_ble_eq_true rfl, Nat.le_of_ble_eq_true rfl⟩ (hP.sub [] rfl) rfl hl.1 rfl (Nat.le_of_ble_eq_true rfl) dX1_isOther_20 ⟨Nat.zero_le _, Nat.zero_le _⟩ ?_
        refine lv_if_ne (tgt := 37) hx hb dX1_isOther_23 (by decide) (fun c_23 => ?_) (fun c_23 => ?_)
        · replace c_23 := bI_n0.mp c_23
          refine lv_iconst (v := 0) hx hb dX1_isOther_37 (by decide) ?_
          exact ro_zret X (by simp [isOt, bI, c_3, c_9, c_16, c_23]) dX1_isOther_38
        · replace c_23 := bI_0.mp c_23
          refine lv_iload_n hx hb dX1_isOther_26 rfl (lv_at hl 0 rfl) ?_
          refine ro_S (n := 1) X hK (c_X3_isLetter) gX1_isOther_X3_isLetter rfl (by decide +kernel) ⟨rfl, rfl⟩ ⟨Nat.le_of_ble_eq_true rfl, Nat.le_of_ble_eq_true rfl⟩ (hP.sub [] rfl) rfl hl.1 rfl (Nat.le_of_ble_eq_true rfl) dX1_isOther_27 ⟨Nat.zero_le _, Nat.zero_le _⟩ ?_
          refine lv_if_ne (tgt := 37) hx hb dX1_isOther_30 (by decide) (fun c_30 => ?_) (fun c_30 => ?_)
          · replace c_30 := bI_n0.mp c_30
            refine lv_iconst (v := 0) hx hb dX1_isOther_37 (by decide) ?_
            exact ro_zret X (by simp [isOt, bI, c_3, c_9, c_16, c_23, c_30]) dX1_isOther_38
          · replace c_30 := bI_0.mp c_30
            refine lv_iconst (v := 1) hx hb dX1_isOther_33 (by decide) ?_
            refine lv_goto (tgt := 38) hx hb dX1_isOther_34 (by decide) ?_
            exact ro_zret X (by simp [isOt, bI, c_3, c_9, c_16, c_23, c_30]) dX1_isOther_38

set_option maxHeartbeats 1000000 in
set_option maxRecDepth 100000 in
theorem c_X1_endOfDigits {l : Launch} {D : va_G} {cI cJ cW : ClassId} {z t v th k tb n : Nat} {L : Nat → Int32} {lg : Int32} {p : Nat} (hn : n ≤ 80) (hp : p ≤ 100) : RO l yX1_endOfDigits wsX1_endOfDigits { frames := 1, cells := 0, slots := 0, locals := 21 } D (ty3 cI cJ cW) [.ref z, .int (nI p)] [(z, .inr (1, [.ref t, .ref v, .ref th, .ref k, .int lg])), (th, .inr (4, [.ref tb, .int (nI n)])), (tb, .inl (cI, 80, .inl L))] (.int (nI (sp isDi L n p))) := by
  refine ro_of (cc := cX1_endOfDigits) (maxL := 3) (ret := (some .int)) (by decide) rfl (Nat.le_of_ble_eq_true rfl) ?_
  intro pr en ss mi below meth cd X hP hK ls hl
  obtain ⟨hx, hb, hml, hown, hts, hr, hlocks⟩ := id X
  have fl_19 := hts (.fieldLink RX1 19 "WordTables$Cutter" "line" "LWordTables$Row;") (by decide +kernel)
  have fl_37 := hts (.fieldLink RX1 37 "WordTables$Row" "count" "I") (by decide +kernel)
  have in_X1 : ∀ w ∈ wsX10, w ∈ wsX1_endOfDigits := by decide +kernel
  have in_X4 : ∀ w ∈ wsX40, w ∈ wsX1_endOfDigits := by decide +kernel
  have hl : lv_has ls 3 [(0, .ref z), (1, .int (nI p))] := hl
  refine lv_iload_n hx hb dX1_endOfDigits_0 rfl (lv_at hl 1 rfl) ?_
  refine lv_istore_n (lv' := [(2, _), (0, _), (1, _)]) hx hb dX1_endOfDigits_1 rfl hl (by decide) rfl (fun ls hl => ?_)
  have loop_2 : ∀ (fuel : Nat) (j : Nat), n - j < fuel → j ≤ 100 → sp isDi L n j = sp isDi L n p → ∀ ls : Array Slot, lv_has ls 3 [(0, .ref z), (1, .int (nI p)), (2, .int (nI j))] → W pr l en { frames := 1, cells := 0, slots := 0, locals := 21 } ss mi ([.ref z, .int (nI p)] : List Value).toArray below meth cd ss.heap [] 0 0 (MQ below (k2_QcV (.int (nI (sp isDi L n p)))) ([.ref z, .int (nI p)] : List Value).toArray ss 0 0 (fun _ => False)) (F0 mi 2 ls []) := by
    intro fuel
    induction fuel with
    | zero => intro j hm; exact absurd hm (Nat.not_lt_zero _)
    | succ fuel ih =>
      intro j hm hj hr  ls hl
      refine lv_iload_n hx hb dX1_endOfDigits_2 rfl (lv_at hl 2 rfl) ?_
      refine lv_aload_n hx hb dX1_endOfDigits_3 rfl (lv_at hl 0 rfl) ?_
      refine va_get (D := D) (ci := 1) (C := RX1) (T := TX1) (N := 5) hx hb hts in_X1 hown hK hP 0 rfl rfl 2 (by decide) fl_19 (fun _ h9 => h9) rfl dX1_endOfDigits_4 ?_
      refine va_get (D := D) (ci := 4) (C := RX4) (T := TX4) (N := 2) hx hb hts in_X4 hown hK hP 1 rfl rfl 1 (by decide) fl_37 (fun _ h9 => h9) rfl dX1_endOfDigits_7 ?_
      refine lv_icmp_ge (tgt := 33) hx hb dX1_endOfDigits_10 (by decide) (fun c_10 => ?_) (fun c_10 => ?_)
      · refine lv_iload_n hx hb dX1_endOfDigits_33 rfl (lv_at hl 2 rfl) ?_
        exact ro_iret X (by first | rw [← hr, sp_f hlt c_24] | rw [← hr, sp_ge ((nI_leI (by omega) (by omega)).mp c_10)]) dX1_endOfDigits_34
      · have hlt : j < n := by first | exact lt_nge c_10 (by omega) (by omega) | exact Nat.lt_of_not_le (fun q => c_10 (nI_le q (by omega)))
        refine lv_aload_n hx hb dX1_endOfDigits_13 rfl (lv_at hl 0 rfl) ?_
        refine va_get (D := D) (ci := 1) (C := RX1) (T := TX1) (N := 5) hx hb hts in_X1 hown hK hP 0 rfl rfl 2 (by decide) fl_19 (fun _ h9 => h9) rfl dX1_endOfDigits_14 ?_
        refine lv_iload_n hx hb dX1_endOfDigits_17 rfl (lv_at hl 2 rfl) ?_
        refine ro_V (n := 1) X hK (c_X4_byteAt (by decide)) gX1_endOfDigits_X4_byteAt rfl (by decide +kernel) ⟨rfl, rfl⟩ ⟨Nat.le_of_ble_eq_true rfl, Nat.le_of_ble_eq_true rfl⟩ (hP.sub [1, 2] rfl) (va_recv hK hP (ci := 4) (q0 := 1) rfl rfl) rfl hl.1 rfl (Nat.le_of_ble_eq_true rfl) dX1_endOfDigits_18 ⟨Nat.zero_le _, Nat.zero_le _⟩ ?_
        rw [rowAt_lt hlt (by omega) (by omega) (by decide)]
        refine ro_S (n := 1) X hK (c_X1_isDigit) gX1_endOfDigits_X1_isDigit rfl (by decide +kernel) ⟨rfl, rfl⟩ ⟨Nat.le_of_ble_eq_true rfl, Nat.le_of_ble_eq_true rfl⟩ (hP.sub [] rfl) rfl hl.1 rfl (Nat.le_of_ble_eq_true rfl) dX1_endOfDigits_21 ⟨Nat.zero_le _, Nat.zero_le _⟩ ?_
        refine lv_if_eq (tgt := 33) hx hb dX1_endOfDigits_24 (by decide) (fun c_24 => ?_) (fun c_24 => ?_)
        · replace c_24 := bI_0.mp c_24
          refine lv_iload_n hx hb dX1_endOfDigits_33 rfl (lv_at hl 2 rfl) ?_
          exact ro_iret X (by first | rw [← hr, sp_f hlt c_24] | rw [← hr, sp_ge ((nI_leI (by omega) (by omega)).mp c_10)]) dX1_endOfDigits_34
        · replace c_24 := bI_n0.mp c_24
          refine lv_iinc (v := (_ : Int32) + 1) (lv' := [(2, _), (0, _), (1, _)]) hx hb dX1_endOfDigits_27 hl (k := 2) rfl rfl (by decide) rfl (fun ls hl => ?_)
          refine lv_goto (tgt := 2) hx hb dX1_endOfDigits_30 (by decide) ?_
          rw [nI_1] at hl
          exact ih (j + 1) (by omega) (by omega) (by rw [← hr, sp_t hlt c_24])  _ (lv_sub hl [1, 2, 0] rfl)
  exact loop_2 (n + 1) p (by omega) hp rfl  ls (lv_sub hl [1, 2, 0] rfl)

set_option maxHeartbeats 1000000 in
set_option maxRecDepth 100000 in
theorem c_X1_numberOf {l : Launch} {D : va_G} {cI cJ cW : ClassId} {z t v th k tb n : Nat} {L : Nat → Int32} {lg : Int32} {p q : Nat} (hn : n ≤ 80) (hq : q ≤ n) (hpq : p ≤ q) (hd : ∀ i, p ≤ i → i < q → isDi (L i) = true) : RO l yX1_numberOf wsX1_numberOf { frames := 1, cells := 0, slots := 0, locals := 21 } D (ty3 cI cJ cW) [.ref z, .int (nI p), .int (nI q)] [(z, .inr (1, [.ref t, .ref v, .ref th, .ref k, .int lg])), (th, .inr (4, [.ref tb, .int (nI n)])), (tb, .inl (cI, 80, .inl L))] (.int (nI (min (numN L p (q - p) 0) 30001))) := by
  refine ro_of (cc := cX1_numberOf) (maxL := 5) (ret := (some .int)) (by decide) rfl (Nat.le_of_ble_eq_true rfl) ?_
  intro pr en ss mi below meth cd X hP hK ls hl
  obtain ⟨hx, hb, hml, hown, hts, hr, hlocks⟩ := id X
  have fl_19 := hts (.fieldLink RX1 19 "WordTables$Cutter" "line" "LWordTables$Row;") (by decide +kernel)
  have in_X1 : ∀ w ∈ wsX10, w ∈ wsX1_numberOf := by decide +kernel
  have hl : lv_has ls 5 [(0, .ref z), (1, .int (nI p)), (2, .int (nI q))] := hl
  refine lv_iconst (v := 0) hx hb dX1_numberOf_0 (by decide) ?_
  refine lv_istore_n (lv' := [(3, _), (0, _), (1, _), (2, _)]) hx hb dX1_numberOf_1 rfl hl (by decide) rfl (fun ls hl => ?_)
  refine lv_iload_n hx hb dX1_numberOf_2 rfl (lv_at hl 2 rfl) ?_
  refine lv_istore (lv' := [(4, _), (3, _), (0, _), (1, _), (2, _)]) hx hb dX1_numberOf_3 hl (by decide) rfl (fun ls hl => ?_)
  have loop_5 : ∀ (fuel : Nat) (j w : Nat), q - j < fuel → p ≤ j → j ≤ q → numN L j (q - j) w = numN L p (q - p) 0 → ∀ ls : Array Slot, lv_has ls 5 [(0, .ref z), (1, .int (nI p)), (2, .int (nI q)), (3, .int (nI (min w 30001))), (4, .int (nI j))] → W pr l en { frames := 1, cells := 0, slots := 0, locals := 21 } ss mi ([.ref z, .int (nI p), .int (nI q)] : List Value).toArray below meth cd ss.heap [] 0 0 (MQ below (k2_QcV (.int (nI (min (numN L p (q - p) 0) 30001)))) ([.ref z, .int (nI p), .int (nI q)] : List Value).toArray ss 0 0 (fun _ => False)) (F0 mi 5 ls []) := by
    intro fuel
    induction fuel with
    | zero => intro j w hm; exact absurd hm (Nat.not_lt_zero _)
    | succ fuel ih =>
      intro j w hm hpj hj hr  ls hl
      refine lv_iload hx hb dX1_numberOf_5 (lv_at hl 4 rfl) ?_
      refine lv_iload_n hx hb dX1_numberOf_7 rfl (lv_at hl 2 rfl) ?_
      refine lv_icmp_ge (tgt := 41) hx hb dX1_numberOf_8 (by decide) (fun c_8 => ?_) (fun c_8 => ?_)
      · have hjq : j = q := eq_ge c_8 hj (by omega)
        refine lv_iload_n hx hb dX1_numberOf_41 rfl (lv_at hl 3 rfl) ?_
        exact ro_iret X (by rw [← hr, hjq, Nat.sub_self, numN]) dX1_numberOf_42
      · have hlt : j < q := lt_nge c_8 hj (by omega)
        obtain ⟨d, hd9, hLd, hdd⟩ := dg_of (hd j hpj hlt)
        refine lv_bipush (v := 10) hx hb dX1_numberOf_11 (by decide) ?_
        refine lv_iload_n hx hb dX1_numberOf_13 rfl (lv_at hl 3 rfl) ?_
        refine lv_imul hx hb dX1_numberOf_14 ?_
        refine lv_aload_n hx hb dX1_numberOf_15 rfl (lv_at hl 0 rfl) ?_
        refine va_get (D := D) (ci := 1) (C := RX1) (T := TX1) (N := 5) hx hb hts in_X1 hown hK hP 0 rfl rfl 2 (by decide) fl_19 (fun _ h9 => h9) rfl dX1_numberOf_16 ?_
        refine lv_iload hx hb dX1_numberOf_19 (lv_at hl 4 rfl) ?_
        refine ro_V (n := 1) X hK (c_X4_byteAt (by decide)) gX1_numberOf_X4_byteAt rfl (by decide +kernel) ⟨rfl, rfl⟩ ⟨Nat.le_of_ble_eq_true rfl, Nat.le_of_ble_eq_true rfl⟩ (hP.sub [1, 2] rfl) (va_recv hK hP (ci := 4) (q0 := 1) rfl rfl) rfl hl.1 rfl (Nat.le_of_ble_eq_true rfl) dX1_numberOf_21 ⟨Nat.zero_le _, Nat.zero_le _⟩ ?_
        rw [rowAt_lt (show j < n by omega) (by omega) (by omega) (by decide), hLd]
        refine lv_iadd hx hb dX1_numberOf_24 ?_
        refine lv_bipush (v := 48) hx hb dX1_numberOf_25 (by decide) ?_
        refine lv_isub hx hb dX1_numberOf_27 ?_
        refine lv_sipush (v := 30001) hx hb dX1_numberOf_28 (by decide) ?_
        refine va_mmin hx hb (hml.trans hl.1.symm) hown (hts (.methodLink RX1 126 Lib.Math.min.name) (by decide +kernel)) (hts (.static Lib.Math.min.name) (by decide +kernel)) (hts (.initialized "java/lang/Math") (by decide +kernel)) (hts (.code Lib.Math.min.name Lib.Math.min.code 2 (some .int)) (by decide +kernel)) (Nat.le_of_ble_eq_true rfl) (Nat.le_of_ble_eq_true rfl) (Nat.zero_le _) (Nat.zero_le _) dX1_numberOf_31 ?_
        rw [show (10 : Int32) * nI (min w 30001) + nI (48 + d) - 48 = nI (10 * min w 30001 + d) from by rw [show (10 : Int32) = nI 10 from rfl, pk_mul, nI_add, show (48 : Int32) = nI 48 from rfl, pk_sub (by omega)]; congr 1; omega, show (30001 : Int32) = nI 30001 from rfl, mn_nI (by omega) (by decide), show min (10 * min w 30001 + d) 30001 = min (10 * w + d) 30001 by omega]
        refine lv_istore_n (lv' := [(3, _), (0, _), (1, _), (2, _), (4, _)]) hx hb dX1_numberOf_34 rfl hl (by decide) rfl (fun ls hl => ?_)
        refine lv_iinc (v := (_ : Int32) + 1) (lv' := [(4, _), (3, _), (0, _), (1, _), (2, _)]) hx hb dX1_numberOf_35 hl (k := 4) rfl rfl (by decide) rfl (fun ls hl => ?_)
        refine lv_goto (tgt := 5) hx hb dX1_numberOf_38 (by decide) ?_
        rw [nI_1] at hl
        exact ih (j + 1) (10 * w + d) (by omega) (by omega) (by omega) (by rw [← hr, show q - j = (q - (j + 1)) + 1 by omega, numN, hdd])  _ (lv_sub hl [2, 3, 4, 1, 0] rfl)
  exact loop_5 (q + 1) p 0 (by omega) (Nat.le_refl _) hpq rfl  ls (lv_sub hl [2, 3, 4, 1, 0] rfl)

