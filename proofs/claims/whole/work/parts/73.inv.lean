/-! what stays true between two calls of a script: the two sides' cells, and how they agree -/
structure Gh where
  x : Nat
  (t fa d db v vw vj th tb z g g0 g1 g2 u w k kx kb k1 k2 k3 k4 h hx hb h1 h2 h3 h4 m : Nat)
  a : Nat → Nat
  (ct dn nw nj n tn tc mm fq xn : Nat)
  (fo df L mt mw mf X xf : Nat → Int32)
  (wf jf : Nat → Option Nat)
  (T S F : Nat → Nat → Int32)
  τ : TS
  iv : Value
  (lg tm stn stm sxn am pb : Int32)
  σ : Int32 × Int32 × Int32
  ρ : Int32 × Int32
  dy : va_W
  (wa ja : Nat → Nat → Nat)
  (wz jz wt jt : Nat → Nat → Int32)
  (wn jn : Nat → Nat)
def gw (cI cJ cW : ClassId) (G : Gh) : va_W := ((G.x, .inr (10, [.ref G.t, .ref G.d, .ref G.v, .ref G.th, .ref G.z, .ref G.g, .ref G.u, .ref G.w, .ref G.k, .ref G.h])) :: (G.t, .inr (3, [.int (nI G.ct), .ref G.fa])) :: (G.fa, .inl (cI, 32, .inl G.fo)) :: (G.d, .inr (4, [.ref G.db, .int (nI G.dn)])) :: (G.db, .inl (cI, 20, .inl G.df)) :: (G.v, .inr (8, [.ref G.t, .ref G.vw, .ref G.vj, .int (nI G.nw), .int (nI G.nj)])) :: (G.vw, .inl (cW, 40, .inr (.inr (.inr (.inr G.wf))))) :: (G.vj, .inl (cJ, 8, .inr (.inr (.inr (.inr G.jf))))) :: (G.th, .inr (4, [.ref G.tb, .int (nI G.n)])) :: (G.tb, .inl (cI, 80, .inl G.L)) :: (G.z, .inr (1, [.ref G.t, .ref G.v, .ref G.th, G.iv, .int G.lg])) :: (G.g, .inr (6, [.ref G.g0, .ref G.g1, .ref G.g2, .int (nI G.tc), .int (nI G.mm), .int (nI G.fq)])) :: (G.g0, .inl (cI, 60, .inl G.mt)) :: (G.g1, .inl (cI, 60, .inl G.mw)) :: (G.g2, .inl (cI, 60, .inl G.mf)) :: (G.u, .inr (5, [.int G.σ.1, .int G.σ.2.1, .int G.σ.2.2])) :: (G.w, .inr (0, [.int G.ρ.1, .int G.ρ.2])) :: (G.k, .inr (7, [.ref G.kx, .ref G.k1, .ref G.k2, .ref G.k3, .ref G.k4, .int (nI G.tn), .int G.tm])) :: (G.kx, .inr (4, [.ref G.kb, .int (nI G.xn)])) :: (G.kb, .inl (cI, 80, .inl G.X)) :: (G.k1, .inl (cI, 24, .inl (G.T 1))) :: (G.k2, .inl (cI, 24, .inl (G.T 2))) :: (G.k3, .inl (cI, 24, .inl (G.T 3))) :: (G.k4, .inl (cI, 24, .inl (G.T 4))) :: (G.h, .inr (7, [.ref G.hx, .ref G.h1, .ref G.h2, .ref G.h3, .ref G.h4, .int G.stn, .int G.stm])) :: (G.hx, .inr (4, [.ref G.hb, .int G.sxn])) :: (G.hb, .inl (cI, 80, .inl G.xf)) :: (G.h1, .inl (cI, 24, .inl (G.S 1))) :: (G.h2, .inl (cI, 24, .inl (G.S 2))) :: (G.h3, .inl (cI, 24, .inl (G.S 3))) :: (G.h4, .inl (cI, 24, .inl (G.S 4))) :: (G.m, .inr (11, [.int (nI G.ct), .ref (G.a 1), .ref (G.a 2), .int (nI G.dn), .int (nI G.nw), .int (nI G.nj), .ref (G.a 6), .ref (G.a 7), .ref (G.a 8), .ref (G.a 9), .ref (G.a 10), .ref (G.a 11), .ref (G.a 12), .ref (G.a 13), .ref (G.a 14), .ref (G.a 15), .int (nI G.n), .int (nI G.tn), .ref (G.a 18), .ref (G.a 19), .ref (G.a 20), .ref (G.a 21), .ref (G.a 22), .ref (G.a 23), .ref (G.a 24), .ref (G.a 25), .int (nI G.τ.1), .int (G.τ.2.1), .ref (G.a 28), .int (nI G.tc), .int (nI G.mm), .ref (G.a 31), .ref (G.a 32), .ref (G.a 33), .int (nI G.fq), .int (G.am), .int (G.pb)])) :: ((G.a 1), .inl (cI, 32, .inl G.fo)) :: ((G.a 2), .inl (cI, 20, .inl G.df)) :: ((G.a 6), .inl (cI, 960, .inl (G.F 6))) :: ((G.a 7), .inl (cI, 48, .inl (G.F 7))) :: ((G.a 8), .inl (cI, 40, .inl (G.F 8))) :: ((G.a 9), .inl (cI, 40, .inl (G.F 9))) :: ((G.a 10), .inl (cI, 40, .inl (G.F 10))) :: ((G.a 11), .inl (cI, 40, .inl (G.F 11))) :: ((G.a 12), .inl (cI, 40, .inl (G.F 12))) :: ((G.a 13), .inl (cI, 8, .inl (G.F 13))) :: ((G.a 14), .inl (cI, 8, .inl (G.F 14))) :: ((G.a 15), .inl (cI, 80, .inl G.L)) :: ((G.a 18), .inl (cI, 24, .inl (G.F 18))) :: ((G.a 19), .inl (cI, 24, .inl (G.F 19))) :: ((G.a 20), .inl (cI, 24, .inl (G.F 20))) :: ((G.a 21), .inl (cI, 24, .inl (G.F 21))) :: ((G.a 22), .inl (cI, 24, .inl (G.τ.2.2 1))) :: ((G.a 23), .inl (cI, 24, .inl (G.τ.2.2 2))) :: ((G.a 24), .inl (cI, 24, .inl (G.τ.2.2 3))) :: ((G.a 25), .inl (cI, 24, .inl (G.τ.2.2 4))) :: ((G.a 28), .inl (cI, 80, .inl (G.F 28))) :: ((G.a 31), .inl (cI, 60, .inl G.mt)) :: ((G.a 32), .inl (cI, 60, .inl G.mw)) :: ((G.a 33), .inl (cI, 60, .inl G.mf)) :: G.dy)
structure Inv (cI : ClassId) (G : Gh) : Prop where
  hct : G.ct < 2 ^ 30
  hdn : G.dn ≤ 20
  hnw : G.nw ≤ 40
  hnj : G.nj ≤ 8
  hn : G.n ≤ 80
  htn : G.tn ≤ 24
  htc : G.tc ≤ 12
  hmm : G.mm ≤ 60
  hfq : G.fq < 256
  hxn : G.xn ≤ 80
  hwf : ∀ i, i < G.nw → G.wf i = some (G.wa i 0)
  hjf : ∀ i, i < G.nj → G.jf i = some (G.ja i 0)
  hdw : Dw cI G.wa G.wz G.wn G.wt G.nw G.dy
  hdj : Dj cI G.ja G.jz G.jn G.jt G.nj G.dy
  hwi : ∀ i j, i < G.nw → j < G.nw → G.wa i 0 = G.wa j 0 → i = j
  hrw : RW G.F G.nw G.wz G.wn G.wt
  hrj : RJ G.F G.nj G.jz G.jn G.jt
  hrt : RT G.F G.T G.tn G.nw G.xn
  hrm : RM G.mw G.mf G.mm
  hX : ∀ k, k < G.xn → G.F 28 k = G.X k
  hdl : ∀ k, k < G.dn → isLe (G.df k) = true
  hLb : ∀ k, k < G.n → ¬ G.L k < 0
  hjw : ∀ j, j < G.nj → (∃ i, i < G.nw ∧ G.jz j 1 = nI i) ∧ ∃ i, i < G.nw ∧ G.jz j 2 = nI i
theorem Inv.hct31 {cI : ClassId} {G : Gh} (I : Inv cI G) : G.ct < 2 ^ 31 := Nat.lt_trans I.hct (by decide)
def clG (G : Gh) : Nat := 56 + 3 * (G.nw + G.nj)
def slG (G : Gh) : Nat := 2612 + 28 * (G.nw + G.nj)
theorem cb_ok {cI : ClassId} {G : Gh} (I : Inv cI G) : clG G ≤ room_1.cells ∧ slG G ≤ room_1.slots := by
  have h1 := I.hnw
  have h2 := I.hnj
  refine ⟨?_, ?_⟩
  · show 56 + 3 * (G.nw + G.nj) ≤ 747469
    omega
  · show 2612 + 28 * (G.nw + G.nj) ≤ 6859841
    omega
theorem cb_3 {cI : ClassId} {G : Gh} (I : Inv cI G) : clG G + 3 ≤ room_1.cells ∧ slG G + 28 ≤ room_1.slots := by
  have h1 := I.hnw
  have h2 := I.hnj
  refine ⟨?_, ?_⟩
  · show 56 + 3 * (G.nw + G.nj) + 3 ≤ 747469
    omega
  · show 2612 + 28 * (G.nw + G.nj) + 28 ≤ 6859841
    omega
theorem cb_j {cI : ClassId} {G : Gh} (I : Inv cI G) : clG G + 3 ≤ room_1.cells ∧ slG G + 25 ≤ room_1.slots := ⟨(cb_3 I).1, Nat.le_trans (by omega) (cb_3 I).2⟩
/-- what the law has all along -/
structure LC (p : Program) (s : State) (mi : MethodId) (meth : Method) (cd : Code) (b L : Nat) (xs : Nat → Int32) (D : va_G) (cI cJ cW : ClassId) (A : Nat → Prop) : Prop where
  X : Cx p s mi #[Value.ref b] meth cd cL_law (some .boolean) 4 wsL_law RL
  hK : va_K D vwCl (ty3 cI cJ cW) s
  hE : xE s
  hX : va_X b L xs s s.heap
  hbl : b < s.heap.size
  hbA : ¬ A b
  hA : ∀ q : Nat, s.heap.size ≤ q → A q
  hL : L ≤ 2049
