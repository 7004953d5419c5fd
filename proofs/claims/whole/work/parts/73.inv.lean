/-! what stays true between two calls of a script: the two sides' cells, and how they agree -/
abbrev Gh : Type := (((((Nat × Nat) × (Nat × Nat)) × ((Nat × Nat) × (Nat × (Nat × Nat)))) × (((Nat × Nat) × (Nat × (Nat × Nat))) × ((Nat × Nat) × (Nat × (Nat × Nat))))) × ((((Nat × Nat) × (Nat × Nat)) × ((Nat × Nat) × (Nat × (Nat × Nat)))) × (((Nat × Nat) × (Nat × (Nat × (Nat → Nat)))) × ((Nat × Nat) × (Nat × (Nat × Nat)))))) × (((((Nat × Nat) × (Nat × Nat)) × ((Nat × (Nat → Int32)) × ((Nat → Int32) × ((Nat → Int32) × (Nat → Int32))))) × ((((Nat → Int32) × (Nat → Int32)) × ((Nat → Int32) × ((Nat → Int32) × (Nat → Option Nat)))) × (((Nat → Option Nat) × (Nat → Nat → Int32)) × ((Nat → Nat → Int32) × ((Nat → Nat → Int32) × TS))))) × ((((Value × Int32) × (Int32 × Int32)) × ((Int32 × Int32) × (Int32 × (Int32 × (Int32 × Int32 × Int32))))) × ((((Int32 × Int32) × va_W) × ((Nat → Nat → Nat) × ((Nat → Nat → Nat) × (Nat → Nat → Int32)))) × (((Nat → Nat → Int32) × (Nat → Nat → Int32)) × ((Nat → Nat → Int32) × ((Nat → Nat) × (Nat → Nat)))))))
def gw (cI cJ cW : ClassId) (G : Gh) : va_W := ((G.1.1.1.1.1.1, .inr (10, [.ref G.1.1.1.1.1.2, .ref G.1.1.1.1.2.2, .ref G.1.1.1.2.1.2, .ref G.1.1.1.2.2.2.2, .ref G.1.1.2.1.1.2, .ref G.1.1.2.1.2.1, .ref G.1.1.2.2.1.2, .ref G.1.1.2.2.2.1, .ref G.1.1.2.2.2.2.1, .ref G.1.2.1.2.1.2])) :: (G.1.1.1.1.1.2, .inr (3, [.int (nI G.1.2.2.2.1.1), .ref G.1.1.1.1.2.1])) :: (G.1.1.1.1.2.1, .inl (cI, 32, .inl G.2.1.1.2.1.2)) :: (G.1.1.1.1.2.2, .inr (4, [.ref G.1.1.1.2.1.1, .int (nI G.1.2.2.2.1.2)])) :: (G.1.1.1.2.1.1, .inl (cI, 20, .inl G.2.1.1.2.2.1)) :: (G.1.1.1.2.1.2, .inr (8, [.ref G.1.1.1.1.1.2, .ref G.1.1.1.2.2.1, .ref G.1.1.1.2.2.2.1, .int (nI G.1.2.2.2.2.1), .int (nI G.1.2.2.2.2.2.1)])) :: (G.1.1.1.2.2.1, .inl (cW, 40, .inr (.inr (.inr (.inr G.2.1.2.1.2.2.2))))) :: (G.1.1.1.2.2.2.1, .inl (cJ, 8, .inr (.inr (.inr (.inr G.2.1.2.2.1.1))))) :: (G.1.1.1.2.2.2.2, .inr (4, [.ref G.1.1.2.1.1.1, .int (nI G.1.2.2.2.2.2.2)])) :: (G.1.1.2.1.1.1, .inl (cI, 80, .inl G.2.1.1.2.2.2.1)) :: (G.1.1.2.1.1.2, .inr (1, [.ref G.1.1.1.1.1.2, .ref G.1.1.1.2.1.2, .ref G.1.1.1.2.2.2.2, G.2.2.1.1.1.1, .int G.2.2.1.1.1.2])) :: (G.1.1.2.1.2.1, .inr (6, [.ref G.1.1.2.1.2.2.1, .ref G.1.1.2.1.2.2.2, .ref G.1.1.2.2.1.1, .int (nI G.2.1.1.1.1.2), .int (nI G.2.1.1.1.2.1), .int (nI G.2.1.1.1.2.2)])) :: (G.1.1.2.1.2.2.1, .inl (cI, 60, .inl G.2.1.1.2.2.2.2)) :: (G.1.1.2.1.2.2.2, .inl (cI, 60, .inl G.2.1.2.1.1.1)) :: (G.1.1.2.2.1.1, .inl (cI, 60, .inl G.2.1.2.1.1.2)) :: (G.1.1.2.2.1.2, .inr (5, [.int G.2.2.1.2.2.2.2.1, .int G.2.2.1.2.2.2.2.2.1, .int G.2.2.1.2.2.2.2.2.2])) :: (G.1.1.2.2.2.1, .inr (0, [.int G.2.2.2.1.1.1.1, .int G.2.2.2.1.1.1.2])) :: (G.1.1.2.2.2.2.1, .inr (7, [.ref G.1.1.2.2.2.2.2, .ref G.1.2.1.1.1.2, .ref G.1.2.1.1.2.1, .ref G.1.2.1.1.2.2, .ref G.1.2.1.2.1.1, .int (nI G.2.1.1.1.1.1), .int G.2.2.1.1.2.1])) :: (G.1.1.2.2.2.2.2, .inr (4, [.ref G.1.2.1.1.1.1, .int (nI G.2.1.1.2.1.1)])) :: (G.1.2.1.1.1.1, .inl (cI, 80, .inl G.2.1.2.1.2.1)) :: (G.1.2.1.1.1.2, .inl (cI, 24, .inl (G.2.1.2.2.1.2 1))) :: (G.1.2.1.1.2.1, .inl (cI, 24, .inl (G.2.1.2.2.1.2 2))) :: (G.1.2.1.1.2.2, .inl (cI, 24, .inl (G.2.1.2.2.1.2 3))) :: (G.1.2.1.2.1.1, .inl (cI, 24, .inl (G.2.1.2.2.1.2 4))) :: (G.1.2.1.2.1.2, .inr (7, [.ref G.1.2.1.2.2.1, .ref G.1.2.1.2.2.2.2, .ref G.1.2.2.1.1.1, .ref G.1.2.2.1.1.2, .ref G.1.2.2.1.2.1, .int G.2.2.1.1.2.2, .int G.2.2.1.2.1.1])) :: (G.1.2.1.2.2.1, .inr (4, [.ref G.1.2.1.2.2.2.1, .int G.2.2.1.2.1.2])) :: (G.1.2.1.2.2.2.1, .inl (cI, 80, .inl G.2.1.2.1.2.2.1)) :: (G.1.2.1.2.2.2.2, .inl (cI, 24, .inl (G.2.1.2.2.2.1 1))) :: (G.1.2.2.1.1.1, .inl (cI, 24, .inl (G.2.1.2.2.2.1 2))) :: (G.1.2.2.1.1.2, .inl (cI, 24, .inl (G.2.1.2.2.2.1 3))) :: (G.1.2.2.1.2.1, .inl (cI, 24, .inl (G.2.1.2.2.2.1 4))) :: (G.1.2.2.1.2.2.1, .inr (11, [.int (nI G.1.2.2.2.1.1), .ref (G.1.2.2.1.2.2.2 1), .ref (G.1.2.2.1.2.2.2 2), .int (nI G.1.2.2.2.1.2), .int (nI G.1.2.2.2.2.1), .int (nI G.1.2.2.2.2.2.1), .ref (G.1.2.2.1.2.2.2 6), .ref (G.1.2.2.1.2.2.2 7), .ref (G.1.2.2.1.2.2.2 8), .ref (G.1.2.2.1.2.2.2 9), .ref (G.1.2.2.1.2.2.2 10), .ref (G.1.2.2.1.2.2.2 11), .ref (G.1.2.2.1.2.2.2 12), .ref (G.1.2.2.1.2.2.2 13), .ref (G.1.2.2.1.2.2.2 14), .ref (G.1.2.2.1.2.2.2 15), .int (nI G.1.2.2.2.2.2.2), .int (nI G.2.1.1.1.1.1), .ref (G.1.2.2.1.2.2.2 18), .ref (G.1.2.2.1.2.2.2 19), .ref (G.1.2.2.1.2.2.2 20), .ref (G.1.2.2.1.2.2.2 21), .ref (G.1.2.2.1.2.2.2 22), .ref (G.1.2.2.1.2.2.2 23), .ref (G.1.2.2.1.2.2.2 24), .ref (G.1.2.2.1.2.2.2 25), .int (nI G.2.1.2.2.2.2.2.1), .int (G.2.1.2.2.2.2.2.2.1), .ref (G.1.2.2.1.2.2.2 28), .int (nI G.2.1.1.1.1.2), .int (nI G.2.1.1.1.2.1), .ref (G.1.2.2.1.2.2.2 31), .ref (G.1.2.2.1.2.2.2 32), .ref (G.1.2.2.1.2.2.2 33), .int (nI G.2.1.1.1.2.2), .int (G.2.2.1.2.2.1), .int (G.2.2.1.2.2.2.1)])) :: ((G.1.2.2.1.2.2.2 1), .inl (cI, 32, .inl G.2.1.1.2.1.2)) :: ((G.1.2.2.1.2.2.2 2), .inl (cI, 20, .inl G.2.1.1.2.2.1)) :: ((G.1.2.2.1.2.2.2 6), .inl (cI, 960, .inl (G.2.1.2.2.2.2.1 6))) :: ((G.1.2.2.1.2.2.2 7), .inl (cI, 48, .inl (G.2.1.2.2.2.2.1 7))) :: ((G.1.2.2.1.2.2.2 8), .inl (cI, 40, .inl (G.2.1.2.2.2.2.1 8))) :: ((G.1.2.2.1.2.2.2 9), .inl (cI, 40, .inl (G.2.1.2.2.2.2.1 9))) :: ((G.1.2.2.1.2.2.2 10), .inl (cI, 40, .inl (G.2.1.2.2.2.2.1 10))) :: ((G.1.2.2.1.2.2.2 11), .inl (cI, 40, .inl (G.2.1.2.2.2.2.1 11))) :: ((G.1.2.2.1.2.2.2 12), .inl (cI, 40, .inl (G.2.1.2.2.2.2.1 12))) :: ((G.1.2.2.1.2.2.2 13), .inl (cI, 8, .inl (G.2.1.2.2.2.2.1 13))) :: ((G.1.2.2.1.2.2.2 14), .inl (cI, 8, .inl (G.2.1.2.2.2.2.1 14))) :: ((G.1.2.2.1.2.2.2 15), .inl (cI, 80, .inl G.2.1.1.2.2.2.1)) :: ((G.1.2.2.1.2.2.2 18), .inl (cI, 24, .inl (G.2.1.2.2.2.2.1 18))) :: ((G.1.2.2.1.2.2.2 19), .inl (cI, 24, .inl (G.2.1.2.2.2.2.1 19))) :: ((G.1.2.2.1.2.2.2 20), .inl (cI, 24, .inl (G.2.1.2.2.2.2.1 20))) :: ((G.1.2.2.1.2.2.2 21), .inl (cI, 24, .inl (G.2.1.2.2.2.2.1 21))) :: ((G.1.2.2.1.2.2.2 22), .inl (cI, 24, .inl (G.2.1.2.2.2.2.2.2.2 1))) :: ((G.1.2.2.1.2.2.2 23), .inl (cI, 24, .inl (G.2.1.2.2.2.2.2.2.2 2))) :: ((G.1.2.2.1.2.2.2 24), .inl (cI, 24, .inl (G.2.1.2.2.2.2.2.2.2 3))) :: ((G.1.2.2.1.2.2.2 25), .inl (cI, 24, .inl (G.2.1.2.2.2.2.2.2.2 4))) :: ((G.1.2.2.1.2.2.2 28), .inl (cI, 80, .inl (G.2.1.2.2.2.2.1 28))) :: ((G.1.2.2.1.2.2.2 31), .inl (cI, 60, .inl G.2.1.1.2.2.2.2)) :: ((G.1.2.2.1.2.2.2 32), .inl (cI, 60, .inl G.2.1.2.1.1.1)) :: ((G.1.2.2.1.2.2.2 33), .inl (cI, 60, .inl G.2.1.2.1.1.2)) :: G.2.2.2.1.1.2)
def Inv (cI : ClassId) (G : Gh) : Prop :=
  (G.1.2.2.2.1.1 < 2 ^ 30) ∧
  (G.1.2.2.2.1.2 ≤ 20) ∧
  (G.1.2.2.2.2.1 ≤ 40) ∧
  (G.1.2.2.2.2.2.1 ≤ 8) ∧
  (G.1.2.2.2.2.2.2 ≤ 80) ∧
  (G.2.1.1.1.1.1 ≤ 24) ∧
  (G.2.1.1.1.1.2 ≤ 12) ∧
  (G.2.1.1.1.2.1 ≤ 60) ∧
  (G.2.1.1.1.2.2 < 256) ∧
  (G.2.1.1.2.1.1 ≤ 80) ∧
  (∀ i, i < G.1.2.2.2.2.1 → G.2.1.2.1.2.2.2 i = some (G.2.2.2.1.2.1 i 0)) ∧
  (∀ i, i < G.1.2.2.2.2.2.1 → G.2.1.2.2.1.1 i = some (G.2.2.2.1.2.2.1 i 0)) ∧
  (Dw cI G.2.2.2.1.2.1 G.2.2.2.1.2.2.2 G.2.2.2.2.2.2.1 G.2.2.2.2.1.2 G.1.2.2.2.2.1 G.2.2.2.1.1.2) ∧
  (Dj cI G.2.2.2.1.2.2.1 G.2.2.2.2.1.1 G.2.2.2.2.2.2.2 G.2.2.2.2.2.1 G.1.2.2.2.2.2.1 G.2.2.2.1.1.2) ∧
  (∀ i j, i < G.1.2.2.2.2.1 → j < G.1.2.2.2.2.1 → G.2.2.2.1.2.1 i 0 = G.2.2.2.1.2.1 j 0 → i = j) ∧
  (RW G.2.1.2.2.2.2.1 G.1.2.2.2.2.1 G.2.2.2.1.2.2.2 G.2.2.2.2.2.2.1 G.2.2.2.2.1.2) ∧
  (RJ G.2.1.2.2.2.2.1 G.1.2.2.2.2.2.1 G.2.2.2.2.1.1 G.2.2.2.2.2.2.2 G.2.2.2.2.2.1) ∧
  (RT G.2.1.2.2.2.2.1 G.2.1.2.2.1.2 G.2.1.1.1.1.1 G.1.2.2.2.2.1 G.2.1.1.2.1.1) ∧
  (RM G.2.1.2.1.1.1 G.2.1.2.1.1.2 G.2.1.1.1.2.1) ∧
  (∀ k, k < G.2.1.1.2.1.1 → G.2.1.2.2.2.2.1 28 k = G.2.1.2.1.2.1 k) ∧
  (∀ k, k < G.1.2.2.2.1.2 → isLe (G.2.1.1.2.2.1 k) = true) ∧
  (∀ k, k < G.1.2.2.2.2.2.2 → ¬ G.2.1.1.2.2.2.1 k < 0) ∧
  (∀ j, j < G.1.2.2.2.2.2.1 → (∃ i, i < G.1.2.2.2.2.1 ∧ G.2.2.2.2.1.1 j 1 = nI i) ∧ ∃ i, i < G.1.2.2.2.2.1 ∧ G.2.2.2.2.1.1 j 2 = nI i)
theorem Inv.hct {cI : ClassId} {G : Gh} (I : Inv cI G) : G.1.2.2.2.1.1 < 2 ^ 30 := I.1
theorem Inv.hdn {cI : ClassId} {G : Gh} (I : Inv cI G) : G.1.2.2.2.1.2 ≤ 20 := I.2.1
theorem Inv.hnw {cI : ClassId} {G : Gh} (I : Inv cI G) : G.1.2.2.2.2.1 ≤ 40 := I.2.2.1
theorem Inv.hnj {cI : ClassId} {G : Gh} (I : Inv cI G) : G.1.2.2.2.2.2.1 ≤ 8 := I.2.2.2.1
theorem Inv.hn {cI : ClassId} {G : Gh} (I : Inv cI G) : G.1.2.2.2.2.2.2 ≤ 80 := I.2.2.2.2.1
theorem Inv.htn {cI : ClassId} {G : Gh} (I : Inv cI G) : G.2.1.1.1.1.1 ≤ 24 := I.2.2.2.2.2.1
theorem Inv.htc {cI : ClassId} {G : Gh} (I : Inv cI G) : G.2.1.1.1.1.2 ≤ 12 := I.2.2.2.2.2.2.1
theorem Inv.hmm {cI : ClassId} {G : Gh} (I : Inv cI G) : G.2.1.1.1.2.1 ≤ 60 := I.2.2.2.2.2.2.2.1
theorem Inv.hfq {cI : ClassId} {G : Gh} (I : Inv cI G) : G.2.1.1.1.2.2 < 256 := I.2.2.2.2.2.2.2.2.1
theorem Inv.hxn {cI : ClassId} {G : Gh} (I : Inv cI G) : G.2.1.1.2.1.1 ≤ 80 := I.2.2.2.2.2.2.2.2.2.1
theorem Inv.hwf {cI : ClassId} {G : Gh} (I : Inv cI G) : ∀ i, i < G.1.2.2.2.2.1 → G.2.1.2.1.2.2.2 i = some (G.2.2.2.1.2.1 i 0) := I.2.2.2.2.2.2.2.2.2.2.1
theorem Inv.hjf {cI : ClassId} {G : Gh} (I : Inv cI G) : ∀ i, i < G.1.2.2.2.2.2.1 → G.2.1.2.2.1.1 i = some (G.2.2.2.1.2.2.1 i 0) := I.2.2.2.2.2.2.2.2.2.2.2.1
theorem Inv.hdw {cI : ClassId} {G : Gh} (I : Inv cI G) : Dw cI G.2.2.2.1.2.1 G.2.2.2.1.2.2.2 G.2.2.2.2.2.2.1 G.2.2.2.2.1.2 G.1.2.2.2.2.1 G.2.2.2.1.1.2 := I.2.2.2.2.2.2.2.2.2.2.2.2.1
theorem Inv.hdj {cI : ClassId} {G : Gh} (I : Inv cI G) : Dj cI G.2.2.2.1.2.2.1 G.2.2.2.2.1.1 G.2.2.2.2.2.2.2 G.2.2.2.2.2.1 G.1.2.2.2.2.2.1 G.2.2.2.1.1.2 := I.2.2.2.2.2.2.2.2.2.2.2.2.2.1
theorem Inv.hwi {cI : ClassId} {G : Gh} (I : Inv cI G) : ∀ i j, i < G.1.2.2.2.2.1 → j < G.1.2.2.2.2.1 → G.2.2.2.1.2.1 i 0 = G.2.2.2.1.2.1 j 0 → i = j := I.2.2.2.2.2.2.2.2.2.2.2.2.2.2.1
theorem Inv.hrw {cI : ClassId} {G : Gh} (I : Inv cI G) : RW G.2.1.2.2.2.2.1 G.1.2.2.2.2.1 G.2.2.2.1.2.2.2 G.2.2.2.2.2.2.1 G.2.2.2.2.1.2 := I.2.2.2.2.2.2.2.2.2.2.2.2.2.2.2.1
theorem Inv.hrj {cI : ClassId} {G : Gh} (I : Inv cI G) : RJ G.2.1.2.2.2.2.1 G.1.2.2.2.2.2.1 G.2.2.2.2.1.1 G.2.2.2.2.2.2.2 G.2.2.2.2.2.1 := I.2.2.2.2.2.2.2.2.2.2.2.2.2.2.2.2.1
theorem Inv.hrt {cI : ClassId} {G : Gh} (I : Inv cI G) : RT G.2.1.2.2.2.2.1 G.2.1.2.2.1.2 G.2.1.1.1.1.1 G.1.2.2.2.2.1 G.2.1.1.2.1.1 := I.2.2.2.2.2.2.2.2.2.2.2.2.2.2.2.2.2.1
theorem Inv.hrm {cI : ClassId} {G : Gh} (I : Inv cI G) : RM G.2.1.2.1.1.1 G.2.1.2.1.1.2 G.2.1.1.1.2.1 := I.2.2.2.2.2.2.2.2.2.2.2.2.2.2.2.2.2.2.1
theorem Inv.hX {cI : ClassId} {G : Gh} (I : Inv cI G) : ∀ k, k < G.2.1.1.2.1.1 → G.2.1.2.2.2.2.1 28 k = G.2.1.2.1.2.1 k := I.2.2.2.2.2.2.2.2.2.2.2.2.2.2.2.2.2.2.2.1
theorem Inv.hdl {cI : ClassId} {G : Gh} (I : Inv cI G) : ∀ k, k < G.1.2.2.2.1.2 → isLe (G.2.1.1.2.2.1 k) = true := I.2.2.2.2.2.2.2.2.2.2.2.2.2.2.2.2.2.2.2.2.1
theorem Inv.hLb {cI : ClassId} {G : Gh} (I : Inv cI G) : ∀ k, k < G.1.2.2.2.2.2.2 → ¬ G.2.1.1.2.2.2.1 k < 0 := I.2.2.2.2.2.2.2.2.2.2.2.2.2.2.2.2.2.2.2.2.2.1
theorem Inv.hjw {cI : ClassId} {G : Gh} (I : Inv cI G) : ∀ j, j < G.1.2.2.2.2.2.1 → (∃ i, i < G.1.2.2.2.2.1 ∧ G.2.2.2.2.1.1 j 1 = nI i) ∧ ∃ i, i < G.1.2.2.2.2.1 ∧ G.2.2.2.2.1.1 j 2 = nI i := I.2.2.2.2.2.2.2.2.2.2.2.2.2.2.2.2.2.2.2.2.2.2
theorem Inv.hct31 {cI : ClassId} {G : Gh} (I : Inv cI G) : G.1.2.2.2.1.1 < 2 ^ 31 := Nat.lt_trans I.hct (by decide)
def clG (G : Gh) : Nat := 56 + 3 * (G.1.2.2.2.2.1 + G.1.2.2.2.2.2.1)
def slG (G : Gh) : Nat := 2612 + 28 * (G.1.2.2.2.2.1 + G.1.2.2.2.2.2.1)
/-- the room is measured under a clock, so its numbers differ from one turn to the next: no row here names them -/
theorem rm_ok : 300 ≤ room_1.cells ∧ 5000 ≤ room_1.slots := ⟨Nat.le_of_ble_eq_true rfl, Nat.le_of_ble_eq_true rfl⟩
theorem cb_ok {cI : ClassId} {G : Gh} (I : Inv cI G) : clG G ≤ room_1.cells ∧ slG G ≤ room_1.slots := by
  have h1 := I.hnw
  have h2 := I.hnj
  refine ⟨Nat.le_trans ?_ rm_ok.1, Nat.le_trans ?_ rm_ok.2⟩
  · show 56 + 3 * (G.1.2.2.2.2.1 + G.1.2.2.2.2.2.1) ≤ 300
    omega
  · show 2612 + 28 * (G.1.2.2.2.2.1 + G.1.2.2.2.2.2.1) ≤ 5000
    omega
theorem cb_3 {cI : ClassId} {G : Gh} (I : Inv cI G) : clG G + 3 ≤ room_1.cells ∧ slG G + 28 ≤ room_1.slots := by
  have h1 := I.hnw
  have h2 := I.hnj
  refine ⟨Nat.le_trans ?_ rm_ok.1, Nat.le_trans ?_ rm_ok.2⟩
  · show 56 + 3 * (G.1.2.2.2.2.1 + G.1.2.2.2.2.2.1) + 3 ≤ 300
    omega
  · show 2612 + 28 * (G.1.2.2.2.2.1 + G.1.2.2.2.2.2.1) + 28 ≤ 5000
    omega
theorem cb_j {cI : ClassId} {G : Gh} (I : Inv cI G) : clG G + 3 ≤ room_1.cells ∧ slG G + 25 ≤ room_1.slots := ⟨(cb_3 I).1, Nat.le_trans (by omega) (cb_3 I).2⟩
/-- what the law has all along -/
def LC (p : Program) (s : State) (mi : MethodId) (meth : Method) (cd : Code) (b L : Nat) (xs : Nat → Int32) (D : va_G) (cI cJ cW : ClassId) (A : Nat → Prop) : Prop :=
  (Cx p s mi #[Value.ref b] meth cd cL_law (some .boolean) 4 wsL_law RL) ∧
  (va_K D vwCl (ty3 cI cJ cW) s) ∧
  (xE s) ∧
  (va_X b L xs s s.heap) ∧
  (b < s.heap.size) ∧
  (¬ A b) ∧
  (∀ q : Nat, s.heap.size ≤ q → A q) ∧
  (L ≤ 2049)
theorem LC.X {p : Program} {s : State} {mi : MethodId} {meth : Method} {cd : Code} {b L : Nat} {xs : Nat → Int32} {D : va_G} {cI cJ cW : ClassId} {A : Nat → Prop} (C : LC p s mi meth cd b L xs D cI cJ cW A) : Cx p s mi #[Value.ref b] meth cd cL_law (some .boolean) 4 wsL_law RL := C.1
theorem LC.hK {p : Program} {s : State} {mi : MethodId} {meth : Method} {cd : Code} {b L : Nat} {xs : Nat → Int32} {D : va_G} {cI cJ cW : ClassId} {A : Nat → Prop} (C : LC p s mi meth cd b L xs D cI cJ cW A) : va_K D vwCl (ty3 cI cJ cW) s := C.2.1
theorem LC.hE {p : Program} {s : State} {mi : MethodId} {meth : Method} {cd : Code} {b L : Nat} {xs : Nat → Int32} {D : va_G} {cI cJ cW : ClassId} {A : Nat → Prop} (C : LC p s mi meth cd b L xs D cI cJ cW A) : xE s := C.2.2.1
theorem LC.hX {p : Program} {s : State} {mi : MethodId} {meth : Method} {cd : Code} {b L : Nat} {xs : Nat → Int32} {D : va_G} {cI cJ cW : ClassId} {A : Nat → Prop} (C : LC p s mi meth cd b L xs D cI cJ cW A) : va_X b L xs s s.heap := C.2.2.2.1
theorem LC.hbl {p : Program} {s : State} {mi : MethodId} {meth : Method} {cd : Code} {b L : Nat} {xs : Nat → Int32} {D : va_G} {cI cJ cW : ClassId} {A : Nat → Prop} (C : LC p s mi meth cd b L xs D cI cJ cW A) : b < s.heap.size := C.2.2.2.2.1
theorem LC.hbA {p : Program} {s : State} {mi : MethodId} {meth : Method} {cd : Code} {b L : Nat} {xs : Nat → Int32} {D : va_G} {cI cJ cW : ClassId} {A : Nat → Prop} (C : LC p s mi meth cd b L xs D cI cJ cW A) : ¬ A b := C.2.2.2.2.2.1
theorem LC.hA {p : Program} {s : State} {mi : MethodId} {meth : Method} {cd : Code} {b L : Nat} {xs : Nat → Int32} {D : va_G} {cI cJ cW : ClassId} {A : Nat → Prop} (C : LC p s mi meth cd b L xs D cI cJ cW A) : ∀ q : Nat, s.heap.size ≤ q → A q := C.2.2.2.2.2.2.1
theorem LC.hL {p : Program} {s : State} {mi : MethodId} {meth : Method} {cd : Code} {b L : Nat} {xs : Nat → Int32} {D : va_G} {cI cJ cW : ClassId} {A : Nat → Prop} (C : LC p s mi meth cd b L xs D cI cJ cW A) : L ≤ 2049 := C.2.2.2.2.2.2.2
