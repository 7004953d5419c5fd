/-! the law's own reading of its first int -/
def cellV (L : Nat) (xs : Nat → Int32) (k : Int32) : Int32 := if k < Int32.ofNat L then xs k.toNatClampNeg else 0
theorem c_L_cell {l : Launch} {b L : Nat} {xs : Nat → Int32} {k : Nat} (hL : L ≤ 2049) (hk : k < 2049) : Met l yL_cell wsL_cell { frames := 0, cells := 0, slots := 0, locals := 0 } (va_Pc [.ref b, .int (nI k)] (fun U => va_X b L xs U U.heap ∧ b < U.heap.size)) (k2_QcV (.int (cellV L xs (nI k)))) 0 0 (fun _ => False) := by
  refine Met.ofW (cc := cL_cell) (maxL := 2) (ret := some .int) (by decide) rfl ?_
  intro p e s mi args below meth cd s₁ B hml hv
  obtain ⟨rfl, hX, hbl⟩ := hv
  have hl := lv_entry [.ref b, .int (nI k)] (n := 2) (Nat.le_of_ble_eq_true rfl)
  rw [lg_entry_eq]
  have hx := B.exec
  have hb := B.bytes
  have hr := B.returns
  have hlocks := B.notSynchronized
  generalize hls : (lg_sl [Value.ref b, Value.int (nI k)] ++ List.replicate (2 - (lg_sl [Value.ref b, Value.int (nI k)]).length) Slot.unset).toArray = ls at hl ⊢
  have hl : lv_has ls 2 [(0, .ref b), (1, .int (nI k))] := hl
  have hS : va_S (fun _ => False) s.heap s.heap [] := va_S.rf
  refine lv_iload_n hx hb dL_cell_0 rfl (lv_at hl 1 rfl) ?_
  refine lv_aload_n hx hb dL_cell_1 rfl (lv_at hl 0 rfl) ?_
  refine va_slen hx hb hX hbl id hS dL_cell_2 ?_
  refine lv_icmp_ge (tgt := 12) hx hb dL_cell_3 (by decide) (fun c_3 => ?_) (fun c_3 => ?_)
  · refine lv_iconst (v := 0) hx hb dL_cell_12 (by decide) ?_
    refine W.iret hx hb hr (fun t ht _ => ⟨?_, ht⟩) (fun q h => by cases h) dL_cell_13 hlocks
    have : ¬ nI k < Int32.ofNat L := fun h => by
      rcases Nat.lt_or_ge k L with q | q
      · exact absurd c_3 (nI_ge q (by omega))
      · exact absurd h (by exact Int32.not_lt.mpr c_3)
    simp [cellV, this]
  · refine lv_aload_n hx hb dL_cell_6 rfl (lv_at hl 0 rfl) ?_
    refine lv_iload_n hx hb dL_cell_7 rfl (lv_at hl 1 rfl) ?_
    have hkL : k < L := by
      rcases Nat.lt_or_ge k L with q | q
      · exact q
      · exact absurd (nI_le q (by omega)) c_3
    refine va_sld hx hb hX hbl id hS (vp_in_nI hkL (by omega)) dL_cell_8 ?_
    refine lv_goto (tgt := 13) hx hb dL_cell_9 (by decide) ?_
    refine W.iret hx hb hr (fun t ht _ => ⟨?_, ht⟩) (fun q h => by cases h) dL_cell_13 hlocks
    have : nI k < Int32.ofNat L := Int32.not_le.mp c_3
    simp [cellV, this]
