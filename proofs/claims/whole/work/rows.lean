section
-- ===== PART A: goes FIRST, ahead of the names: the tables' words, and 'selects' of the private methods out of them =====
/-- a private method of a class that the tables say can be made, by its rows of tables_1 -/
def lw_okq (q : MethodName × Nat) : Prop := (q.1.cls ≠ "java/lang/invoke/MethodHandle" ∧ q.1.cls ≠ "java/lang/invoke/VarHandle") ∧ Cond.instantiable q.1.cls q.2 ∈ tables_1 ∧ Cond.privateMethod q.1 ∈ tables_1 ∧ Cond.instanceMethod q.1 ∈ tables_1
theorem lw_p0 : lw_okq (⟨"WordTables$Cutter", "cutAt", "(I)I"⟩, 5) := ⟨⟨by decide +kernel, by decide +kernel⟩, List.mem_of_getElem? (i := 90) (by decide +kernel), List.mem_of_getElem? (i := 407) (by decide +kernel), List.mem_of_getElem? (i := 408) (by decide +kernel)⟩
theorem lw_p1 : lw_okq (⟨"WordTables$Cutter", "cutLetters", "(I)I"⟩, 5) := ⟨⟨by decide +kernel, by decide +kernel⟩, List.mem_of_getElem? (i := 90) (by decide +kernel), List.mem_of_getElem? (i := 413) (by decide +kernel), List.mem_of_getElem? (i := 414) (by decide +kernel)⟩
theorem lw_p2 : lw_okq (⟨"WordTables$Cutter", "addUpTo", "(IIII)I"⟩, 5) := ⟨⟨by decide +kernel, by decide +kernel⟩, List.mem_of_getElem? (i := 90) (by decide +kernel), List.mem_of_getElem? (i := 418) (by decide +kernel), List.mem_of_getElem? (i := 419) (by decide +kernel)⟩
theorem lw_p3 : lw_okq (⟨"WordTables$Cutter", "cutDigits", "(I)I"⟩, 5) := ⟨⟨by decide +kernel, by decide +kernel⟩, List.mem_of_getElem? (i := 90) (by decide +kernel), List.mem_of_getElem? (i := 433) (by decide +kernel), List.mem_of_getElem? (i := 434) (by decide +kernel)⟩
theorem lw_p4 : lw_okq (⟨"WordTables$Cutter", "endOfDigits", "(I)I"⟩, 5) := ⟨⟨by decide +kernel, by decide +kernel⟩, List.mem_of_getElem? (i := 90) (by decide +kernel), List.mem_of_getElem? (i := 437) (by decide +kernel), List.mem_of_getElem? (i := 438) (by decide +kernel)⟩
theorem lw_p5 : lw_okq (⟨"WordTables$Cutter", "isTime", "(II)Z"⟩, 5) := ⟨⟨by decide +kernel, by decide +kernel⟩, List.mem_of_getElem? (i := 90) (by decide +kernel), List.mem_of_getElem? (i := 441) (by decide +kernel), List.mem_of_getElem? (i := 442) (by decide +kernel)⟩
theorem lw_p6 : lw_okq (⟨"WordTables$Cutter", "numberOf", "(II)I"⟩, 5) := ⟨⟨by decide +kernel, by decide +kernel⟩, List.mem_of_getElem? (i := 90) (by decide +kernel), List.mem_of_getElem? (i := 445) (by decide +kernel), List.mem_of_getElem? (i := 446) (by decide +kernel)⟩
theorem lw_p7 : lw_okq (⟨"WordTables$Cutter", "cutTime", "(II)I"⟩, 5) := ⟨⟨by decide +kernel, by decide +kernel⟩, List.mem_of_getElem? (i := 90) (by decide +kernel), List.mem_of_getElem? (i := 450) (by decide +kernel), List.mem_of_getElem? (i := 451) (by decide +kernel)⟩
theorem lw_p8 : lw_okq (⟨"WordTables$Cutter", "isHalfOfDay", "(I)Z"⟩, 5) := ⟨⟨by decide +kernel, by decide +kernel⟩, List.mem_of_getElem? (i := 90) (by decide +kernel), List.mem_of_getElem? (i := 454) (by decide +kernel), List.mem_of_getElem? (i := 455) (by decide +kernel)⟩
theorem lw_p9 : lw_okq (⟨"WordTables$Cutter", "cutQuoted", "(I)I"⟩, 5) := ⟨⟨by decide +kernel, by decide +kernel⟩, List.mem_of_getElem? (i := 90) (by decide +kernel), List.mem_of_getElem? (i := 459) (by decide +kernel), List.mem_of_getElem? (i := 460) (by decide +kernel)⟩
theorem lw_p10 : lw_okq (⟨"WordTables$Cutter", "cutOther", "(I)I"⟩, 5) := ⟨⟨by decide +kernel, by decide +kernel⟩, List.mem_of_getElem? (i := 90) (by decide +kernel), List.mem_of_getElem? (i := 466) (by decide +kernel), List.mem_of_getElem? (i := 467) (by decide +kernel)⟩
theorem lw_p11 : lw_okq (⟨"WordTables", "takeSpareTokens", "()I"⟩, 10) := ⟨⟨by decide +kernel, by decide +kernel⟩, List.mem_of_getElem? (i := 15) (by decide +kernel), List.mem_of_getElem? (i := 473) (by decide +kernel), List.mem_of_getElem? (i := 474) (by decide +kernel)⟩
theorem lw_p12 : lw_okq (⟨"WordTables", "wordOf", "(I)LWordTables$Word;"⟩, 10) := ⟨⟨by decide +kernel, by decide +kernel⟩, List.mem_of_getElem? (i := 15) (by decide +kernel), List.mem_of_getElem? (i := 485) (by decide +kernel), List.mem_of_getElem? (i := 486) (by decide +kernel)⟩
theorem lw_p13 : lw_okq (⟨"WordTables", "sumUpFrom", "(I)V"⟩, 10) := ⟨⟨by decide +kernel, by decide +kernel⟩, List.mem_of_getElem? (i := 15) (by decide +kernel), List.mem_of_getElem? (i := 501) (by decide +kernel), List.mem_of_getElem? (i := 502) (by decide +kernel)⟩
theorem lw_p14 : lw_okq (⟨"WordTables$Sum", "fitsBelowHundred", "(I)Z"⟩, 3) := ⟨⟨by decide +kernel, by decide +kernel⟩, List.mem_of_getElem? (i := 139) (by decide +kernel), List.mem_of_getElem? (i := 518) (by decide +kernel), List.mem_of_getElem? (i := 519) (by decide +kernel)⟩
theorem lw_p15 : lw_okq (⟨"WordTables$Sum", "fitsBelowTen", "(I)Z"⟩, 3) := ⟨⟨by decide +kernel, by decide +kernel⟩, List.mem_of_getElem? (i := 139) (by decide +kernel), List.mem_of_getElem? (i := 522) (by decide +kernel), List.mem_of_getElem? (i := 523) (by decide +kernel)⟩
def lw_privs_1 : List (MethodName × Nat) := [(⟨"WordTables$Cutter", "cutAt", "(I)I"⟩, 5), (⟨"WordTables$Cutter", "cutLetters", "(I)I"⟩, 5), (⟨"WordTables$Cutter", "addUpTo", "(IIII)I"⟩, 5), (⟨"WordTables$Cutter", "cutDigits", "(I)I"⟩, 5), (⟨"WordTables$Cutter", "endOfDigits", "(I)I"⟩, 5), (⟨"WordTables$Cutter", "isTime", "(II)Z"⟩, 5), (⟨"WordTables$Cutter", "numberOf", "(II)I"⟩, 5), (⟨"WordTables$Cutter", "cutTime", "(II)I"⟩, 5), (⟨"WordTables$Cutter", "isHalfOfDay", "(I)Z"⟩, 5), (⟨"WordTables$Cutter", "cutQuoted", "(I)I"⟩, 5), (⟨"WordTables$Cutter", "cutOther", "(I)I"⟩, 5), (⟨"WordTables", "takeSpareTokens", "()I"⟩, 10), (⟨"WordTables", "wordOf", "(I)LWordTables$Word;"⟩, 10), (⟨"WordTables", "sumUpFrom", "(I)V"⟩, 10), (⟨"WordTables$Sum", "fitsBelowHundred", "(I)Z"⟩, 3), (⟨"WordTables$Sum", "fitsBelowTen", "(I)Z"⟩, 3)]
theorem lw_r1 : ∀ q ∈ lw_privs_1, lw_okq q := List.forall_mem_cons.mpr ⟨lw_p0, List.forall_mem_cons.mpr ⟨lw_p1, List.forall_mem_cons.mpr ⟨lw_p2, List.forall_mem_cons.mpr ⟨lw_p3, List.forall_mem_cons.mpr ⟨lw_p4, List.forall_mem_cons.mpr ⟨lw_p5, List.forall_mem_cons.mpr ⟨lw_p6, List.forall_mem_cons.mpr ⟨lw_p7, List.forall_mem_cons.mpr ⟨lw_p8, List.forall_mem_cons.mpr ⟨lw_p9, List.forall_mem_cons.mpr ⟨lw_p10, List.forall_mem_cons.mpr ⟨lw_p11, List.forall_mem_cons.mpr ⟨lw_p12, List.forall_mem_cons.mpr ⟨lw_p13, List.forall_mem_cons.mpr ⟨lw_p14, List.forall_mem_cons.mpr ⟨lw_p15, fun _ h => absurd h List.not_mem_nil⟩⟩⟩⟩⟩⟩⟩⟩⟩⟩⟩⟩⟩⟩⟩⟩
theorem lw_p16 : lw_okq (⟨"WordTables", "thingsMeantAt", "(I)I"⟩, 10) := ⟨⟨by decide +kernel, by decide +kernel⟩, List.mem_of_getElem? (i := 15) (by decide +kernel), List.mem_of_getElem? (i := 577) (by decide +kernel), List.mem_of_getElem? (i := 578) (by decide +kernel)⟩
theorem lw_p17 : lw_okq (⟨"WordTables", "followPhraseFrom", "(I)V"⟩, 10) := ⟨⟨by decide +kernel, by decide +kernel⟩, List.mem_of_getElem? (i := 15) (by decide +kernel), List.mem_of_getElem? (i := 590) (by decide +kernel), List.mem_of_getElem? (i := 591) (by decide +kernel)⟩
theorem lw_p18 : lw_okq (⟨"WordTablesModel", "found", "([IIII)I"⟩, 37) := ⟨⟨by decide +kernel, by decide +kernel⟩, List.mem_of_getElem? (i := 622) (by decide +kernel), List.mem_of_getElem? (i := 758) (by decide +kernel), List.mem_of_getElem? (i := 759) (by decide +kernel)⟩
theorem lw_p19 : lw_okq (⟨"WordTablesModel", "isLike", "([IIII)Z"⟩, 37) := ⟨⟨by decide +kernel, by decide +kernel⟩, List.mem_of_getElem? (i := 622) (by decide +kernel), List.mem_of_getElem? (i := 762) (by decide +kernel), List.mem_of_getElem? (i := 763) (by decide +kernel)⟩
theorem lw_p20 : lw_okq (⟨"WordTablesModel", "folded", "(I)I"⟩, 37) := ⟨⟨by decide +kernel, by decide +kernel⟩, List.mem_of_getElem? (i := 622) (by decide +kernel), List.mem_of_getElem? (i := 766) (by decide +kernel), List.mem_of_getElem? (i := 767) (by decide +kernel)⟩
theorem lw_p21 : lw_okq (⟨"WordTablesModel", "lay", "(I)V"⟩, 37) := ⟨⟨by decide +kernel, by decide +kernel⟩, List.mem_of_getElem? (i := 622) (by decide +kernel), List.mem_of_getElem? (i := 770) (by decide +kernel), List.mem_of_getElem? (i := 771) (by decide +kernel)⟩
theorem lw_p22 : lw_okq (⟨"WordTablesModel", "isWord", "(I)Z"⟩, 37) := ⟨⟨by decide +kernel, by decide +kernel⟩, List.mem_of_getElem? (i := 622) (by decide +kernel), List.mem_of_getElem? (i := 778) (by decide +kernel), List.mem_of_getElem? (i := 779) (by decide +kernel)⟩
theorem lw_p23 : lw_okq (⟨"WordTablesModel", "isKind", "(II)Z"⟩, 37) := ⟨⟨by decide +kernel, by decide +kernel⟩, List.mem_of_getElem? (i := 622) (by decide +kernel), List.mem_of_getElem? (i := 782) (by decide +kernel), List.mem_of_getElem? (i := 783) (by decide +kernel)⟩
theorem lw_p24 : lw_okq (⟨"WordTablesModel", "readLetters", "(II)I"⟩, 37) := ⟨⟨by decide +kernel, by decide +kernel⟩, List.mem_of_getElem? (i := 622) (by decide +kernel), List.mem_of_getElem? (i := 802) (by decide +kernel), List.mem_of_getElem? (i := 803) (by decide +kernel)⟩
theorem lw_p25 : lw_okq (⟨"WordTablesModel", "byteAt", "(I)I"⟩, 37) := ⟨⟨by decide +kernel, by decide +kernel⟩, List.mem_of_getElem? (i := 622) (by decide +kernel), List.mem_of_getElem? (i := 806) (by decide +kernel), List.mem_of_getElem? (i := 807) (by decide +kernel)⟩
theorem lw_p26 : lw_okq (⟨"WordTablesModel", "add", "(IIII)V"⟩, 37) := ⟨⟨by decide +kernel, by decide +kernel⟩, List.mem_of_getElem? (i := 622) (by decide +kernel), List.mem_of_getElem? (i := 810) (by decide +kernel), List.mem_of_getElem? (i := 811) (by decide +kernel)⟩
theorem lw_p27 : lw_okq (⟨"WordTablesModel", "readDigits", "(I)I"⟩, 37) := ⟨⟨by decide +kernel, by decide +kernel⟩, List.mem_of_getElem? (i := 622) (by decide +kernel), List.mem_of_getElem? (i := 817) (by decide +kernel), List.mem_of_getElem? (i := 818) (by decide +kernel)⟩
theorem lw_p28 : lw_okq (⟨"WordTablesModel", "numberOf", "(II)I"⟩, 37) := ⟨⟨by decide +kernel, by decide +kernel⟩, List.mem_of_getElem? (i := 622) (by decide +kernel), List.mem_of_getElem? (i := 821) (by decide +kernel), List.mem_of_getElem? (i := 822) (by decide +kernel)⟩
theorem lw_p29 : lw_okq (⟨"WordTablesModel", "readTime", "(III)I"⟩, 37) := ⟨⟨by decide +kernel, by decide +kernel⟩, List.mem_of_getElem? (i := 622) (by decide +kernel), List.mem_of_getElem? (i := 826) (by decide +kernel), List.mem_of_getElem? (i := 827) (by decide +kernel)⟩
theorem lw_p30 : lw_okq (⟨"WordTablesModel", "readQuoted", "(I)I"⟩, 37) := ⟨⟨by decide +kernel, by decide +kernel⟩, List.mem_of_getElem? (i := 622) (by decide +kernel), List.mem_of_getElem? (i := 830) (by decide +kernel), List.mem_of_getElem? (i := 831) (by decide +kernel)⟩
theorem lw_p31 : lw_okq (⟨"WordTablesModel", "isToken", "(I)Z"⟩, 37) := ⟨⟨by decide +kernel, by decide +kernel⟩, List.mem_of_getElem? (i := 622) (by decide +kernel), List.mem_of_getElem? (i := 844) (by decide +kernel), List.mem_of_getElem? (i := 845) (by decide +kernel)⟩
def lw_privs_2 : List (MethodName × Nat) := [(⟨"WordTables", "thingsMeantAt", "(I)I"⟩, 10), (⟨"WordTables", "followPhraseFrom", "(I)V"⟩, 10), (⟨"WordTablesModel", "found", "([IIII)I"⟩, 37), (⟨"WordTablesModel", "isLike", "([IIII)Z"⟩, 37), (⟨"WordTablesModel", "folded", "(I)I"⟩, 37), (⟨"WordTablesModel", "lay", "(I)V"⟩, 37), (⟨"WordTablesModel", "isWord", "(I)Z"⟩, 37), (⟨"WordTablesModel", "isKind", "(II)Z"⟩, 37), (⟨"WordTablesModel", "readLetters", "(II)I"⟩, 37), (⟨"WordTablesModel", "byteAt", "(I)I"⟩, 37), (⟨"WordTablesModel", "add", "(IIII)V"⟩, 37), (⟨"WordTablesModel", "readDigits", "(I)I"⟩, 37), (⟨"WordTablesModel", "numberOf", "(II)I"⟩, 37), (⟨"WordTablesModel", "readTime", "(III)I"⟩, 37), (⟨"WordTablesModel", "readQuoted", "(I)I"⟩, 37), (⟨"WordTablesModel", "isToken", "(I)Z"⟩, 37)]
theorem lw_r2 : ∀ q ∈ lw_privs_2, lw_okq q := List.forall_mem_cons.mpr ⟨lw_p16, List.forall_mem_cons.mpr ⟨lw_p17, List.forall_mem_cons.mpr ⟨lw_p18, List.forall_mem_cons.mpr ⟨lw_p19, List.forall_mem_cons.mpr ⟨lw_p20, List.forall_mem_cons.mpr ⟨lw_p21, List.forall_mem_cons.mpr ⟨lw_p22, List.forall_mem_cons.mpr ⟨lw_p23, List.forall_mem_cons.mpr ⟨lw_p24, List.forall_mem_cons.mpr ⟨lw_p25, List.forall_mem_cons.mpr ⟨lw_p26, List.forall_mem_cons.mpr ⟨lw_p27, List.forall_mem_cons.mpr ⟨lw_p28, List.forall_mem_cons.mpr ⟨lw_p29, List.forall_mem_cons.mpr ⟨lw_p30, List.forall_mem_cons.mpr ⟨lw_p31, fun _ h => absurd h List.not_mem_nil⟩⟩⟩⟩⟩⟩⟩⟩⟩⟩⟩⟩⟩⟩⟩⟩
theorem lw_p32 : lw_okq (⟨"WordTablesModel", "amountAt", "(I)I"⟩, 37) := ⟨⟨by decide +kernel, by decide +kernel⟩, List.mem_of_getElem? (i := 622) (by decide +kernel), List.mem_of_getElem? (i := 856) (by decide +kernel), List.mem_of_getElem? (i := 857) (by decide +kernel)⟩
theorem lw_p33 : lw_okq (⟨"WordTablesModel", "isNumberWord", "(I)Z"⟩, 37) := ⟨⟨by decide +kernel, by decide +kernel⟩, List.mem_of_getElem? (i := 622) (by decide +kernel), List.mem_of_getElem? (i := 860) (by decide +kernel), List.mem_of_getElem? (i := 861) (by decide +kernel)⟩
theorem lw_p34 : lw_okq (⟨"WordTablesModel", "meantBy", "(I)I"⟩, 37) := ⟨⟨by decide +kernel, by decide +kernel⟩, List.mem_of_getElem? (i := 622) (by decide +kernel), List.mem_of_getElem? (i := 888) (by decide +kernel), List.mem_of_getElem? (i := 889) (by decide +kernel)⟩
theorem lw_p35 : lw_okq (⟨"WordTablesModel", "phraseAt", "(I)I"⟩, 37) := ⟨⟨by decide +kernel, by decide +kernel⟩, List.mem_of_getElem? (i := 622) (by decide +kernel), List.mem_of_getElem? (i := 896) (by decide +kernel), List.mem_of_getElem? (i := 897) (by decide +kernel)⟩
def lw_privs_3 : List (MethodName × Nat) := [(⟨"WordTablesModel", "amountAt", "(I)I"⟩, 37), (⟨"WordTablesModel", "isNumberWord", "(I)Z"⟩, 37), (⟨"WordTablesModel", "meantBy", "(I)I"⟩, 37), (⟨"WordTablesModel", "phraseAt", "(I)I"⟩, 37)]
theorem lw_r3 : ∀ q ∈ lw_privs_3, lw_okq q := List.forall_mem_cons.mpr ⟨lw_p32, List.forall_mem_cons.mpr ⟨lw_p33, List.forall_mem_cons.mpr ⟨lw_p34, List.forall_mem_cons.mpr ⟨lw_p35, fun _ h => absurd h List.not_mem_nil⟩⟩⟩⟩
def lw_privs : List (MethodName × Nat) := lw_privs_1 ++ (lw_privs_2 ++ (lw_privs_3))
def lw_tbl : List Cond := k2_sels lw_privs ++ tables_1
theorem lw_privs_ok : ∀ q ∈ lw_privs, lw_okq q := by
  show ∀ q ∈ lw_privs_1 ++ (lw_privs_2 ++ (lw_privs_3)), lw_okq q
  exact List.forall_mem_append.mpr ⟨lw_r1, List.forall_mem_append.mpr ⟨lw_r2, lw_r3⟩⟩
end
section
/-! ===== BEGIN words of one list among another's, by their places ===== -/
theorem goodIn_r {big : List Cond} (ws : List Cond) (ps : List Nat) (hp : ws = ps.filterMap (fun i => big[i]?)) (h : ws.all goodWord = true) : GoodIn big ws := by
  intro w hw
  have h1 := List.all_eq_true.mp h w hw
  rw [hp] at hw
  obtain ⟨i, -, hi⟩ := List.mem_filterMap.mp hw
  have hm : w ∈ big := by first | exact List.mem_of_getElem? hi | exact List.getElem?_mem hi
  exact ⟨hm, good_of_word h1⟩
theorem goodIn_app {big a b : List Cond} (ha : GoodIn big a) (hb : GoodIn big b) : GoodIn big (a ++ b) := fun w h => (List.mem_append.mp h).elim (ha w) (hb w)
theorem goodIn_ca {big a b : List Cond} {c : Cond} (ha : GoodIn big (c :: a)) (hb : GoodIn big b) : GoodIn big (c :: (a ++ b)) := fun w h => (List.mem_cons.mp h).elim (fun e => ha w (List.mem_cons.mpr (Or.inl e))) (fun h => (List.mem_append.mp h).elim (fun h => ha w (List.mem_cons.mpr (Or.inr h))) (hb w))
theorem goodIn_sub {big ws : List Cond} (hm : ∀ w ∈ ws, w ∈ big) (h : ws.all goodWord = true) : GoodIn big ws := fun w hw => ⟨hm w hw, good_of_word (List.all_eq_true.mp h w hw)⟩
/-! ===== END ===== -/

/-! ===== BEGIN printed: names, fields, word lists, decode rows ===== -/
def RX0 : String := "WordTables$Common"
def TX0 : u_T := fun k => match k with
  | 0 => ("WordTables$Common", "shared", "I", false)
  | _ => ("WordTables$Common", "length", "I", false)
def tyX0 : Nat → FieldType := fun k => match k with
  | 0 => .int
  | _ => .int
abbrev wsX00 : List Cond := u_ws RX0 TX0 2
theorem nmX0 : ∀ a, a < 2 → ∀ b, b < 2 → a ≠ b → (TX0 a).2.1 ≠ (TX0 b).2.1 := by decide +kernel
theorem tyX0_ok : ∀ k, k < 2 → parseFieldDescriptor (TX0 k).2.2.1 = some (tyX0 k) := by decide +kernel
abbrev cX0_init : ByteArray := prog_2_method_1_code
def yX0_init : MethodName := ⟨RX0, "<init>", "()V"⟩
abbrev cX0_clear : ByteArray := prog_2_method_2_code
def yX0_clear : MethodName := ⟨RX0, "clear", "()V"⟩
abbrev cX0_accept : ByteArray := prog_2_method_3_code
def yX0_accept : MethodName := ⟨RX0, "accept", "(I)Z"⟩
def RX1 : String := "WordTables$Cutter"
def TX1 : u_T := fun k => match k with
  | 0 => ("WordTables$Cutter", "letters", "LWordTables$Letters;", true)
  | 1 => ("WordTables$Cutter", "vocabulary", "LWordTables$Vocabulary;", true)
  | 2 => ("WordTables$Cutter", "line", "LWordTables$Row;", true)
  | 3 => ("WordTables$Cutter", "into", "LWordTables$Tokens;", false)
  | _ => ("WordTables$Cutter", "language", "I", false)
def tyX1 : Nat → FieldType := fun k => match k with
  | 0 => .object "WordTables$Letters"
  | 1 => .object "WordTables$Vocabulary"
  | 2 => .object "WordTables$Row"
  | 3 => .object "WordTables$Tokens"
  | _ => .int
abbrev wsX10 : List Cond := u_ws RX1 TX1 5
theorem nmX1 : ∀ a, a < 5 → ∀ b, b < 5 → a ≠ b → (TX1 a).2.1 ≠ (TX1 b).2.1 := by decide +kernel
theorem tyX1_ok : ∀ k, k < 5 → parseFieldDescriptor (TX1 k).2.2.1 = some (tyX1 k) := by decide +kernel
abbrev cX1_init : ByteArray := prog_3_method_1_code
def yX1_init : MethodName := ⟨RX1, "<init>", "(LWordTables$Letters;LWordTables$Vocabulary;LWordTables$Row;)V"⟩
abbrev cX1_cutLine : ByteArray := prog_3_method_2_code
def yX1_cutLine : MethodName := ⟨RX1, "cutLine", "(ILWordTables$Tokens;)Z"⟩
abbrev cX1_cutAt : ByteArray := prog_3_method_3_code
def yX1_cutAt : MethodName := ⟨RX1, "cutAt", "(I)I"⟩
abbrev cX1_addUpTo : ByteArray := prog_3_method_4_code
def yX1_addUpTo : MethodName := ⟨RX1, "addUpTo", "(IIII)I"⟩
abbrev cX1_cutLetters : ByteArray := prog_3_method_5_code
def yX1_cutLetters : MethodName := ⟨RX1, "cutLetters", "(I)I"⟩
abbrev cX1_cutDigits : ByteArray := prog_3_method_6_code
def yX1_cutDigits : MethodName := ⟨RX1, "cutDigits", "(I)I"⟩
abbrev cX1_isTime : ByteArray := prog_3_method_7_code
def yX1_isTime : MethodName := ⟨RX1, "isTime", "(II)Z"⟩
abbrev cX1_cutTime : ByteArray := prog_3_method_8_code
def yX1_cutTime : MethodName := ⟨RX1, "cutTime", "(II)I"⟩
abbrev cX1_isHalfOfDay : ByteArray := prog_3_method_9_code
def yX1_isHalfOfDay : MethodName := ⟨RX1, "isHalfOfDay", "(I)Z"⟩
abbrev cX1_cutQuoted : ByteArray := prog_3_method_10_code
def yX1_cutQuoted : MethodName := ⟨RX1, "cutQuoted", "(I)I"⟩
abbrev cX1_cutOther : ByteArray := prog_3_method_11_code
def yX1_cutOther : MethodName := ⟨RX1, "cutOther", "(I)I"⟩
abbrev cX1_endOfDigits : ByteArray := prog_3_method_12_code
def yX1_endOfDigits : MethodName := ⟨RX1, "endOfDigits", "(I)I"⟩
abbrev cX1_numberOf : ByteArray := prog_3_method_13_code
def yX1_numberOf : MethodName := ⟨RX1, "numberOf", "(II)I"⟩
abbrev cX1_isDigit : ByteArray := prog_3_method_14_code
def yX1_isDigit : MethodName := ⟨RX1, "isDigit", "(I)Z"⟩
abbrev cX1_isMark : ByteArray := prog_3_method_15_code
def yX1_isMark : MethodName := ⟨RX1, "isMark", "(I)Z"⟩
abbrev cX1_isOther : ByteArray := prog_3_method_16_code
def yX1_isOther : MethodName := ⟨RX1, "isOther", "(I)Z"⟩
def RX2 : String := "WordTables$Join"
def TX2 : u_T := fun k => match k with
  | 0 => ("WordTables$Join", "spelling", "LWordTables$Row;", true)
  | 1 => ("WordTables$Join", "first", "I", true)
  | _ => ("WordTables$Join", "second", "I", true)
def tyX2 : Nat → FieldType := fun k => match k with
  | 0 => .object "WordTables$Row"
  | 1 => .int
  | _ => .int
abbrev wsX20 : List Cond := u_ws RX2 TX2 3
theorem nmX2 : ∀ a, a < 3 → ∀ b, b < 3 → a ≠ b → (TX2 a).2.1 ≠ (TX2 b).2.1 := by decide +kernel
theorem tyX2_ok : ∀ k, k < 3 → parseFieldDescriptor (TX2 k).2.2.1 = some (tyX2 k) := by decide +kernel
abbrev cX2_init : ByteArray := prog_4_method_1_code
def yX2_init : MethodName := ⟨RX2, "<init>", "(LWordTables$Row;II)V"⟩
def RX3 : String := "WordTables$Letters"
def TX3 : u_T := fun k => match k with
  | 0 => ("WordTables$Letters", "cut", "I", true)
  | _ => ("WordTables$Letters", "folds", "[I", true)
def tyX3 : Nat → FieldType := fun k => match k with
  | 0 => .int
  | _ => .array .int
abbrev wsX30 : List Cond := u_ws RX3 TX3 2
theorem nmX3 : ∀ a, a < 2 → ∀ b, b < 2 → a ≠ b → (TX3 a).2.1 ≠ (TX3 b).2.1 := by decide +kernel
theorem tyX3_ok : ∀ k, k < 2 → parseFieldDescriptor (TX3 k).2.2.1 = some (tyX3 k) := by decide +kernel
abbrev cX3_init : ByteArray := prog_5_method_1_code
def yX3_init : MethodName := ⟨RX3, "<init>", "(I)V"⟩
abbrev cX3_isSmall : ByteArray := prog_5_method_2_code
def yX3_isSmall : MethodName := ⟨RX3, "isSmall", "(I)Z"⟩
abbrev cX3_isFoldable : ByteArray := prog_5_method_3_code
def yX3_isFoldable : MethodName := ⟨RX3, "isFoldable", "(I)Z"⟩
abbrev cX3_isLetter : ByteArray := prog_5_method_4_code
def yX3_isLetter : MethodName := ⟨RX3, "isLetter", "(I)Z"⟩
abbrev cX3_folded : ByteArray := prog_5_method_5_code
def yX3_folded : MethodName := ⟨RX3, "folded", "(I)I"⟩
abbrev cX3_changeFold : ByteArray := prog_5_method_6_code
def yX3_changeFold : MethodName := ⟨RX3, "changeFold", "(II)V"⟩
abbrev cX3_areLike : ByteArray := prog_5_method_7_code
def yX3_areLike : MethodName := ⟨RX3, "areLike", "(LWordTables$Row;LWordTables$Row;II)Z"⟩
def RX4 : String := "WordTables$Row"
def TX4 : u_T := fun k => match k with
  | 0 => ("WordTables$Row", "bytes", "[I", true)
  | _ => ("WordTables$Row", "count", "I", false)
def tyX4 : Nat → FieldType := fun k => match k with
  | 0 => .array .int
  | _ => .int
abbrev wsX40 : List Cond := u_ws RX4 TX4 2
theorem nmX4 : ∀ a, a < 2 → ∀ b, b < 2 → a ≠ b → (TX4 a).2.1 ≠ (TX4 b).2.1 := by decide +kernel
theorem tyX4_ok : ∀ k, k < 2 → parseFieldDescriptor (TX4 k).2.2.1 = some (tyX4 k) := by decide +kernel
abbrev cX4_init : ByteArray := prog_6_method_1_code
def yX4_init : MethodName := ⟨RX4, "<init>", "(I)V"⟩
abbrev cX4_isFull : ByteArray := prog_6_method_2_code
def yX4_isFull : MethodName := ⟨RX4, "isFull", "()Z"⟩
abbrev cX4_put : ByteArray := prog_6_method_3_code
def yX4_put : MethodName := ⟨RX4, "put", "(I)V"⟩
abbrev cX4_byteAt : ByteArray := prog_6_method_4_code
def yX4_byteAt : MethodName := ⟨RX4, "byteAt", "(I)I"⟩
abbrev cX4_clear : ByteArray := prog_6_method_5_code
def yX4_clear : MethodName := ⟨RX4, "clear", "()V"⟩
abbrev cX4_copyFrom : ByteArray := prog_6_method_6_code
def yX4_copyFrom : MethodName := ⟨RX4, "copyFrom", "(LWordTables$Row;)V"⟩
def RX5 : String := "WordTables$Sum"
def TX5 : u_T := fun k => match k with
  | 0 => ("WordTables$Sum", "rest", "I", false)
  | 1 => ("WordTables$Sum", "part", "I", false)
  | _ => ("WordTables$Sum", "length", "I", false)
def tyX5 : Nat → FieldType := fun k => match k with
  | 0 => .int
  | 1 => .int
  | _ => .int
abbrev wsX50 : List Cond := u_ws RX5 TX5 3
theorem nmX5 : ∀ a, a < 3 → ∀ b, b < 3 → a ≠ b → (TX5 a).2.1 ≠ (TX5 b).2.1 := by decide +kernel
theorem tyX5_ok : ∀ k, k < 3 → parseFieldDescriptor (TX5 k).2.2.1 = some (tyX5 k) := by decide +kernel
abbrev cX5_init : ByteArray := prog_7_method_1_code
def yX5_init : MethodName := ⟨RX5, "<init>", "()V"⟩
abbrev cX5_clear : ByteArray := prog_7_method_2_code
def yX5_clear : MethodName := ⟨RX5, "clear", "()V"⟩
abbrev cX5_begin : ByteArray := prog_7_method_3_code
def yX5_begin : MethodName := ⟨RX5, "begin", "(I)V"⟩
abbrev cX5_accept : ByteArray := prog_7_method_4_code
def yX5_accept : MethodName := ⟨RX5, "accept", "(I)Z"⟩
abbrev cX5_fitsBelowHundred : ByteArray := prog_7_method_5_code
def yX5_fitsBelowHundred : MethodName := ⟨RX5, "fitsBelowHundred", "(I)Z"⟩
abbrev cX5_fitsBelowTen : ByteArray := prog_7_method_6_code
def yX5_fitsBelowTen : MethodName := ⟨RX5, "fitsBelowTen", "(I)Z"⟩
def RX6 : String := "WordTables$Things"
def TX6 : u_T := fun k => match k with
  | 0 => ("WordTables$Things", "meaningThings", "[I", true)
  | 1 => ("WordTables$Things", "meaningWords", "[I", true)
  | 2 => ("WordTables$Things", "meaningFlags", "[I", true)
  | 3 => ("WordTables$Things", "count", "I", false)
  | 4 => ("WordTables$Things", "meaningCount", "I", false)
  | _ => ("WordTables$Things", "flagsUp", "I", false)
def tyX6 : Nat → FieldType := fun k => match k with
  | 0 => .array .int
  | 1 => .array .int
  | 2 => .array .int
  | 3 => .int
  | 4 => .int
  | _ => .int
abbrev wsX60 : List Cond := u_ws RX6 TX6 6
theorem nmX6 : ∀ a, a < 6 → ∀ b, b < 6 → a ≠ b → (TX6 a).2.1 ≠ (TX6 b).2.1 := by decide +kernel
theorem tyX6_ok : ∀ k, k < 6 → parseFieldDescriptor (TX6 k).2.2.1 = some (tyX6 k) := by decide +kernel
abbrev cX6_init : ByteArray := prog_8_method_1_code
def yX6_init : MethodName := ⟨RX6, "<init>", "()V"⟩
abbrev cX6_has : ByteArray := prog_8_method_2_code
def yX6_has : MethodName := ⟨RX6, "has", "(I)Z"⟩
abbrev cX6_areAll : ByteArray := prog_8_method_3_code
def yX6_areAll : MethodName := ⟨RX6, "areAll", "(I)Z"⟩
abbrev cX6_addThing : ByteArray := prog_8_method_4_code
def yX6_addThing : MethodName := ⟨RX6, "addThing", "()Z"⟩
abbrev cX6_addMeaning : ByteArray := prog_8_method_5_code
def yX6_addMeaning : MethodName := ⟨RX6, "addMeaning", "(III)Z"⟩
abbrev cX6_isUp : ByteArray := prog_8_method_6_code
def yX6_isUp : MethodName := ⟨RX6, "isUp", "(I)Z"⟩
abbrev cX6_setFlag : ByteArray := prog_8_method_7_code
def yX6_setFlag : MethodName := ⟨RX6, "setFlag", "(IZ)V"⟩
abbrev cX6_meantBy : ByteArray := prog_8_method_8_code
def yX6_meantBy : MethodName := ⟨RX6, "meantBy", "(I)I"⟩
def RX7 : String := "WordTables$Tokens"
def TX7 : u_T := fun k => match k with
  | 0 => ("WordTables$Tokens", "text", "LWordTables$Row;", true)
  | 1 => ("WordTables$Tokens", "sorts", "[I", true)
  | 2 => ("WordTables$Tokens", "places", "[I", true)
  | 3 => ("WordTables$Tokens", "lengths", "[I", true)
  | 4 => ("WordTables$Tokens", "numbers", "[I", true)
  | 5 => ("WordTables$Tokens", "count", "I", false)
  | _ => ("WordTables$Tokens", "tooMany", "Z", false)
def tyX7 : Nat → FieldType := fun k => match k with
  | 0 => .object "WordTables$Row"
  | 1 => .array .int
  | 2 => .array .int
  | 3 => .array .int
  | 4 => .array .int
  | 5 => .int
  | _ => .boolean
abbrev wsX70 : List Cond := u_ws RX7 TX7 7
theorem nmX7 : ∀ a, a < 7 → ∀ b, b < 7 → a ≠ b → (TX7 a).2.1 ≠ (TX7 b).2.1 := by decide +kernel
theorem tyX7_ok : ∀ k, k < 7 → parseFieldDescriptor (TX7 k).2.2.1 = some (tyX7 k) := by decide +kernel
abbrev cX7_init : ByteArray := prog_9_method_1_code
def yX7_init : MethodName := ⟨RX7, "<init>", "()V"⟩
abbrev cX7_has : ByteArray := prog_9_method_2_code
def yX7_has : MethodName := ⟨RX7, "has", "(I)Z"⟩
abbrev cX7_startOn : ByteArray := prog_9_method_3_code
def yX7_startOn : MethodName := ⟨RX7, "startOn", "(LWordTables$Row;)V"⟩
abbrev cX7_add : ByteArray := prog_9_method_4_code
def yX7_add : MethodName := ⟨RX7, "add", "(IIII)V"⟩
def RX8 : String := "WordTables$Vocabulary"
def TX8 : u_T := fun k => match k with
  | 0 => ("WordTables$Vocabulary", "letters", "LWordTables$Letters;", true)
  | 1 => ("WordTables$Vocabulary", "words", "[LWordTables$Word;", true)
  | 2 => ("WordTables$Vocabulary", "joins", "[LWordTables$Join;", true)
  | 3 => ("WordTables$Vocabulary", "wordCount", "I", false)
  | _ => ("WordTables$Vocabulary", "joinCount", "I", false)
def tyX8 : Nat → FieldType := fun k => match k with
  | 0 => .object "WordTables$Letters"
  | 1 => .array (.object "WordTables$Word")
  | 2 => .array (.object "WordTables$Join")
  | 3 => .int
  | _ => .int
abbrev wsX80 : List Cond := u_ws RX8 TX8 5
theorem nmX8 : ∀ a, a < 5 → ∀ b, b < 5 → a ≠ b → (TX8 a).2.1 ≠ (TX8 b).2.1 := by decide +kernel
theorem tyX8_ok : ∀ k, k < 5 → parseFieldDescriptor (TX8 k).2.2.1 = some (tyX8 k) := by decide +kernel
abbrev cX8_init : ByteArray := prog_10_method_1_code
def yX8_init : MethodName := ⟨RX8, "<init>", "(LWordTables$Letters;)V"⟩
abbrev cX8_known : ByteArray := prog_10_method_2_code
def yX8_known : MethodName := ⟨RX8, "known", "(I)LWordTables$Word;"⟩
abbrev cX8_likeIn : ByteArray := prog_10_method_3_code
def yX8_likeIn : MethodName := ⟨RX8, "likeIn", "(ILWordTables$Row;II)I"⟩
abbrev cX8_joinLike : ByteArray := prog_10_method_4_code
def yX8_joinLike : MethodName := ⟨RX8, "joinLike", "(LWordTables$Row;II)LWordTables$Join;"⟩
abbrev cX8_addWord : ByteArray := prog_10_method_5_code
def yX8_addWord : MethodName := ⟨RX8, "addWord", "(LWordTables$Row;I)I"⟩
abbrev cX8_addJoin : ByteArray := prog_10_method_6_code
def yX8_addJoin : MethodName := ⟨RX8, "addJoin", "(LWordTables$Row;II)Z"⟩
def RX9 : String := "WordTables$Word"
def TX9 : u_T := fun k => match k with
  | 0 => ("WordTables$Word", "spelling", "LWordTables$Row;", true)
  | 1 => ("WordTables$Word", "language", "I", true)
  | 2 => ("WordTables$Word", "kinds", "I", false)
  | 3 => ("WordTables$Word", "worth", "I", false)
  | 4 => ("WordTables$Word", "pluralOf", "I", false)
  | _ => ("WordTables$Word", "refersTo", "I", false)
def tyX9 : Nat → FieldType := fun k => match k with
  | 0 => .object "WordTables$Row"
  | 1 => .int
  | 2 => .int
  | 3 => .int
  | 4 => .int
  | _ => .int
abbrev wsX90 : List Cond := u_ws RX9 TX9 6
theorem nmX9 : ∀ a, a < 6 → ∀ b, b < 6 → a ≠ b → (TX9 a).2.1 ≠ (TX9 b).2.1 := by decide +kernel
theorem tyX9_ok : ∀ k, k < 6 → parseFieldDescriptor (TX9 k).2.2.1 = some (tyX9 k) := by decide +kernel
abbrev cX9_init : ByteArray := prog_11_method_1_code
def yX9_init : MethodName := ⟨RX9, "<init>", "(LWordTables$Row;I)V"⟩
abbrev cX9_isOneOf : ByteArray := prog_11_method_2_code
def yX9_isOneOf : MethodName := ⟨RX9, "isOneOf", "(I)Z"⟩
def RX10 : String := "WordTables"
def TX10 : u_T := fun k => match k with
  | 0 => ("WordTables", "letters", "LWordTables$Letters;", true)
  | 1 => ("WordTables", "draft", "LWordTables$Row;", true)
  | 2 => ("WordTables", "vocabulary", "LWordTables$Vocabulary;", true)
  | 3 => ("WordTables", "line", "LWordTables$Row;", true)
  | 4 => ("WordTables", "cutter", "LWordTables$Cutter;", true)
  | 5 => ("WordTables", "things", "LWordTables$Things;", true)
  | 6 => ("WordTables", "sum", "LWordTables$Sum;", true)
  | 7 => ("WordTables", "common", "LWordTables$Common;", true)
  | 8 => ("WordTables", "tokens", "LWordTables$Tokens;", false)
  | _ => ("WordTables", "spare", "LWordTables$Tokens;", false)
def tyX10 : Nat → FieldType := fun k => match k with
  | 0 => .object "WordTables$Letters"
  | 1 => .object "WordTables$Row"
  | 2 => .object "WordTables$Vocabulary"
  | 3 => .object "WordTables$Row"
  | 4 => .object "WordTables$Cutter"
  | 5 => .object "WordTables$Things"
  | 6 => .object "WordTables$Sum"
  | 7 => .object "WordTables$Common"
  | 8 => .object "WordTables$Tokens"
  | _ => .object "WordTables$Tokens"
abbrev wsX100 : List Cond := u_ws RX10 TX10 10
theorem nmX10 : ∀ a, a < 10 → ∀ b, b < 10 → a ≠ b → (TX10 a).2.1 ≠ (TX10 b).2.1 := by decide +kernel
theorem tyX10_ok : ∀ k, k < 10 → parseFieldDescriptor (TX10 k).2.2.1 = some (tyX10 k) := by decide +kernel
abbrev cX10_init : ByteArray := prog_1_method_1_code
def yX10_init : MethodName := ⟨RX10, "<init>", "(I)V"⟩
abbrev cX10_fold : ByteArray := prog_1_method_2_code
def yX10_fold : MethodName := ⟨RX10, "fold", "(II)I"⟩
abbrev cX10_letter : ByteArray := prog_1_method_3_code
def yX10_letter : MethodName := ⟨RX10, "letter", "(I)I"⟩
abbrev cX10_word : ByteArray := prog_1_method_4_code
def yX10_word : MethodName := ⟨RX10, "word", "(II)I"⟩
abbrev cX10_value : ByteArray := prog_1_method_5_code
def yX10_value : MethodName := ⟨RX10, "value", "(II)I"⟩
abbrev cX10_plural : ByteArray := prog_1_method_6_code
def yX10_plural : MethodName := ⟨RX10, "plural", "(II)I"⟩
abbrev cX10_join : ByteArray := prog_1_method_7_code
def yX10_join : MethodName := ⟨RX10, "join", "(II)I"⟩
abbrev cX10_type : ByteArray := prog_1_method_8_code
def yX10_type : MethodName := ⟨RX10, "type", "(I)I"⟩
abbrev cX10_read : ByteArray := prog_1_method_9_code
def yX10_read : MethodName := ⟨RX10, "read", "(I)I"⟩
abbrev cX10_token : ByteArray := prog_1_method_10_code
def yX10_token : MethodName := ⟨RX10, "token", "(II)I"⟩
abbrev cX10_at : ByteArray := prog_1_method_11_code
def yX10_at : MethodName := ⟨RX10, "at", "(II)I"⟩
abbrev cX10_amount : ByteArray := prog_1_method_12_code
def yX10_amount : MethodName := ⟨RX10, "amount", "(I)I"⟩
abbrev cX10_amountLength : ByteArray := prog_1_method_13_code
def yX10_amountLength : MethodName := ⟨RX10, "amountLength", "(I)I"⟩
abbrev cX10_thing : ByteArray := prog_1_method_14_code
def yX10_thing : MethodName := ⟨RX10, "thing", "()I"⟩
abbrev cX10_means : ByteArray := prog_1_method_15_code
def yX10_means : MethodName := ⟨RX10, "means", "(III)I"⟩
abbrev cX10_flag : ByteArray := prog_1_method_16_code
def yX10_flag : MethodName := ⟨RX10, "flag", "(IZ)I"⟩
abbrev cX10_refer : ByteArray := prog_1_method_17_code
def yX10_refer : MethodName := ⟨RX10, "refer", "(II)I"⟩
abbrev cX10_meant : ByteArray := prog_1_method_18_code
def yX10_meant : MethodName := ⟨RX10, "meant", "(I)I"⟩
abbrev cX10_phrase : ByteArray := prog_1_method_19_code
def yX10_phrase : MethodName := ⟨RX10, "phrase", "(I)I"⟩
abbrev cX10_phraseLength : ByteArray := prog_1_method_20_code
def yX10_phraseLength : MethodName := ⟨RX10, "phraseLength", "(I)I"⟩
abbrev cX10_about : ByteArray := prog_1_method_21_code
def yX10_about : MethodName := ⟨RX10, "about", "(II)I"⟩
abbrev cX10_equal : ByteArray := prog_1_method_22_code
def yX10_equal : MethodName := ⟨RX10, "equal", "(II)I"⟩
abbrev cX10_told : ByteArray := prog_1_method_23_code
def yX10_told : MethodName := ⟨RX10, "told", "(I)I"⟩
abbrev cX10_isLanguage : ByteArray := prog_1_method_24_code
def yX10_isLanguage : MethodName := ⟨RX10, "isLanguage", "(I)Z"⟩
abbrev cX10_isFlag : ByteArray := prog_1_method_25_code
def yX10_isFlag : MethodName := ⟨RX10, "isFlag", "(I)Z"⟩
abbrev cX10_takeSpareTokens : ByteArray := prog_1_method_26_code
def yX10_takeSpareTokens : MethodName := ⟨RX10, "takeSpareTokens", "()I"⟩
abbrev cX10_wordOf : ByteArray := prog_1_method_27_code
def yX10_wordOf : MethodName := ⟨RX10, "wordOf", "(I)LWordTables$Word;"⟩
abbrev cX10_kindsOf : ByteArray := prog_1_method_28_code
def yX10_kindsOf : MethodName := ⟨RX10, "kindsOf", "(LWordTables$Word;)I"⟩
abbrev cX10_sumUpFrom : ByteArray := prog_1_method_29_code
def yX10_sumUpFrom : MethodName := ⟨RX10, "sumUpFrom", "(I)V"⟩
abbrev cX10_thingsMeantAt : ByteArray := prog_1_method_30_code
def yX10_thingsMeantAt : MethodName := ⟨RX10, "thingsMeantAt", "(I)I"⟩
abbrev cX10_followPhraseFrom : ByteArray := prog_1_method_31_code
def yX10_followPhraseFrom : MethodName := ⟨RX10, "followPhraseFrom", "(I)V"⟩
def RX11 : String := "WordTablesModel"
def TX11 : u_T := fun k => match k with
  | 0 => ("WordTablesModel", "cut", "I", true)
  | 1 => ("WordTablesModel", "folds", "[I", true)
  | 2 => ("WordTablesModel", "draft", "[I", true)
  | 3 => ("WordTablesModel", "drafted", "I", false)
  | 4 => ("WordTablesModel", "words", "I", false)
  | 5 => ("WordTablesModel", "joins", "I", false)
  | 6 => ("WordTablesModel", "letter", "[I", true)
  | 7 => ("WordTablesModel", "size", "[I", true)
  | 8 => ("WordTablesModel", "language", "[I", true)
  | 9 => ("WordTablesModel", "kinds", "[I", true)
  | 10 => ("WordTablesModel", "value", "[I", true)
  | 11 => ("WordTablesModel", "pluralOf", "[I", true)
  | 12 => ("WordTablesModel", "refers", "[I", true)
  | 13 => ("WordTablesModel", "joinFirst", "[I", true)
  | 14 => ("WordTablesModel", "joinSecond", "[I", true)
  | 15 => ("WordTablesModel", "line", "[I", true)
  | 16 => ("WordTablesModel", "lined", "I", false)
  | 17 => ("WordTablesModel", "tokens", "I", false)
  | 18 => ("WordTablesModel", "sort", "[I", true)
  | 19 => ("WordTablesModel", "place", "[I", true)
  | 20 => ("WordTablesModel", "wide", "[I", true)
  | 21 => ("WordTablesModel", "number", "[I", true)
  | 22 => ("WordTablesModel", "newSort", "[I", true)
  | 23 => ("WordTablesModel", "newPlace", "[I", true)
  | 24 => ("WordTablesModel", "newWide", "[I", true)
  | 25 => ("WordTablesModel", "newNumber", "[I", true)
  | 26 => ("WordTablesModel", "news", "I", false)
  | 27 => ("WordTablesModel", "isMuch", "Z", false)
  | 28 => ("WordTablesModel", "kept", "[I", true)
  | 29 => ("WordTablesModel", "things", "I", false)
  | 30 => ("WordTablesModel", "meanings", "I", false)
  | 31 => ("WordTablesModel", "meaningThing", "[I", true)
  | 32 => ("WordTablesModel", "meaningWord", "[I", true)
  | 33 => ("WordTablesModel", "meaningFlag", "[I", true)
  | 34 => ("WordTablesModel", "flags", "I", false)
  | 35 => ("WordTablesModel", "amountIs", "I", false)
  | _ => ("WordTablesModel", "phraseBits", "I", false)
def tyX11 : Nat → FieldType := fun k => match k with
  | 0 => .int
  | 1 => .array .int
  | 2 => .array .int
  | 3 => .int
  | 4 => .int
  | 5 => .int
  | 6 => .array .int
  | 7 => .array .int
  | 8 => .array .int
  | 9 => .array .int
  | 10 => .array .int
  | 11 => .array .int
  | 12 => .array .int
  | 13 => .array .int
  | 14 => .array .int
  | 15 => .array .int
  | 16 => .int
  | 17 => .int
  | 18 => .array .int
  | 19 => .array .int
  | 20 => .array .int
  | 21 => .array .int
  | 22 => .array .int
  | 23 => .array .int
  | 24 => .array .int
  | 25 => .array .int
  | 26 => .int
  | 27 => .boolean
  | 28 => .array .int
  | 29 => .int
  | 30 => .int
  | 31 => .array .int
  | 32 => .array .int
  | 33 => .array .int
  | 34 => .int
  | 35 => .int
  | _ => .int
abbrev wsX110 : List Cond := u_ws RX11 TX11 37
theorem nmX11 : ∀ a, a < 37 → ∀ b, b < 37 → a ≠ b → (TX11 a).2.1 ≠ (TX11 b).2.1 := by decide +kernel
theorem tyX11_ok : ∀ k, k < 37 → parseFieldDescriptor (TX11 k).2.2.1 = some (tyX11 k) := by decide +kernel
abbrev cX11_init : ByteArray := prog_13_method_1_code
def yX11_init : MethodName := ⟨RX11, "<init>", "(I)V"⟩
abbrev cX11_in : ByteArray := prog_13_method_3_code
def yX11_in : MethodName := ⟨RX11, "in", "(III)Z"⟩
abbrev cX11_isLetter : ByteArray := prog_13_method_4_code
def yX11_isLetter : MethodName := ⟨RX11, "isLetter", "(I)Z"⟩
abbrev cX11_isDigit : ByteArray := prog_13_method_5_code
def yX11_isDigit : MethodName := ⟨RX11, "isDigit", "(I)Z"⟩
abbrev cX11_folded : ByteArray := prog_13_method_6_code
def yX11_folded : MethodName := ⟨RX11, "folded", "(I)I"⟩
abbrev cX11_isWord : ByteArray := prog_13_method_7_code
def yX11_isWord : MethodName := ⟨RX11, "isWord", "(I)Z"⟩
abbrev cX11_fold : ByteArray := prog_13_method_8_code
def yX11_fold : MethodName := ⟨RX11, "fold", "(II)I"⟩
abbrev cX11_letter : ByteArray := prog_13_method_9_code
def yX11_letter : MethodName := ⟨RX11, "letter", "(I)I"⟩
abbrev cX11_isLike : ByteArray := prog_13_method_10_code
def yX11_isLike : MethodName := ⟨RX11, "isLike", "([IIII)Z"⟩
abbrev cX11_found : ByteArray := prog_13_method_11_code
def yX11_found : MethodName := ⟨RX11, "found", "([IIII)I"⟩
abbrev cX11_lay : ByteArray := prog_13_method_12_code
def yX11_lay : MethodName := ⟨RX11, "lay", "(I)V"⟩
abbrev cX11_word : ByteArray := prog_13_method_13_code
def yX11_word : MethodName := ⟨RX11, "word", "(II)I"⟩
abbrev cX11_isKind : ByteArray := prog_13_method_14_code
def yX11_isKind : MethodName := ⟨RX11, "isKind", "(II)Z"⟩
abbrev cX11_value : ByteArray := prog_13_method_15_code
def yX11_value : MethodName := ⟨RX11, "value", "(II)I"⟩
abbrev cX11_plural : ByteArray := prog_13_method_16_code
def yX11_plural : MethodName := ⟨RX11, "plural", "(II)I"⟩
abbrev cX11_join : ByteArray := prog_13_method_17_code
def yX11_join : MethodName := ⟨RX11, "join", "(II)I"⟩
abbrev cX11_type : ByteArray := prog_13_method_18_code
def yX11_type : MethodName := ⟨RX11, "type", "(I)I"⟩
abbrev cX11_byteAt : ByteArray := prog_13_method_19_code
def yX11_byteAt : MethodName := ⟨RX11, "byteAt", "(I)I"⟩
abbrev cX11_add : ByteArray := prog_13_method_20_code
def yX11_add : MethodName := ⟨RX11, "add", "(IIII)V"⟩
abbrev cX11_readLetters : ByteArray := prog_13_method_21_code
def yX11_readLetters : MethodName := ⟨RX11, "readLetters", "(II)I"⟩
abbrev cX11_numberOf : ByteArray := prog_13_method_22_code
def yX11_numberOf : MethodName := ⟨RX11, "numberOf", "(II)I"⟩
abbrev cX11_readDigits : ByteArray := prog_13_method_23_code
def yX11_readDigits : MethodName := ⟨RX11, "readDigits", "(I)I"⟩
abbrev cX11_readTime : ByteArray := prog_13_method_24_code
def yX11_readTime : MethodName := ⟨RX11, "readTime", "(III)I"⟩
abbrev cX11_readQuoted : ByteArray := prog_13_method_25_code
def yX11_readQuoted : MethodName := ⟨RX11, "readQuoted", "(I)I"⟩
abbrev cX11_isStop : ByteArray := prog_13_method_26_code
def yX11_isStop : MethodName := ⟨RX11, "isStop", "(I)Z"⟩
abbrev cX11_isOther : ByteArray := prog_13_method_27_code
def yX11_isOther : MethodName := ⟨RX11, "isOther", "(I)Z"⟩
abbrev cX11_read : ByteArray := prog_13_method_28_code
def yX11_read : MethodName := ⟨RX11, "read", "(I)I"⟩
abbrev cX11_isToken : ByteArray := prog_13_method_29_code
def yX11_isToken : MethodName := ⟨RX11, "isToken", "(I)Z"⟩
abbrev cX11_token : ByteArray := prog_13_method_30_code
def yX11_token : MethodName := ⟨RX11, "token", "(II)I"⟩
abbrev cX11_at : ByteArray := prog_13_method_31_code
def yX11_at : MethodName := ⟨RX11, "at", "(II)I"⟩
abbrev cX11_isNumberWord : ByteArray := prog_13_method_32_code
def yX11_isNumberWord : MethodName := ⟨RX11, "isNumberWord", "(I)Z"⟩
abbrev cX11_amountAt : ByteArray := prog_13_method_33_code
def yX11_amountAt : MethodName := ⟨RX11, "amountAt", "(I)I"⟩
abbrev cX11_amount : ByteArray := prog_13_method_34_code
def yX11_amount : MethodName := ⟨RX11, "amount", "(I)I"⟩
abbrev cX11_amountLength : ByteArray := prog_13_method_35_code
def yX11_amountLength : MethodName := ⟨RX11, "amountLength", "(I)I"⟩
abbrev cX11_thing : ByteArray := prog_13_method_36_code
def yX11_thing : MethodName := ⟨RX11, "thing", "()I"⟩
abbrev cX11_means : ByteArray := prog_13_method_37_code
def yX11_means : MethodName := ⟨RX11, "means", "(III)I"⟩
abbrev cX11_flag : ByteArray := prog_13_method_38_code
def yX11_flag : MethodName := ⟨RX11, "flag", "(IZ)I"⟩
abbrev cX11_refer : ByteArray := prog_13_method_39_code
def yX11_refer : MethodName := ⟨RX11, "refer", "(II)I"⟩
abbrev cX11_meantBy : ByteArray := prog_13_method_40_code
def yX11_meantBy : MethodName := ⟨RX11, "meantBy", "(I)I"⟩
abbrev cX11_meant : ByteArray := prog_13_method_41_code
def yX11_meant : MethodName := ⟨RX11, "meant", "(I)I"⟩
abbrev cX11_phraseAt : ByteArray := prog_13_method_42_code
def yX11_phraseAt : MethodName := ⟨RX11, "phraseAt", "(I)I"⟩
abbrev cX11_phrase : ByteArray := prog_13_method_43_code
def yX11_phrase : MethodName := ⟨RX11, "phrase", "(I)I"⟩
abbrev cX11_phraseLength : ByteArray := prog_13_method_44_code
def yX11_phraseLength : MethodName := ⟨RX11, "phraseLength", "(I)I"⟩
abbrev cX11_about : ByteArray := prog_13_method_45_code
def yX11_about : MethodName := ⟨RX11, "about", "(II)I"⟩
abbrev cX11_equal : ByteArray := prog_13_method_46_code
def yX11_equal : MethodName := ⟨RX11, "equal", "(II)I"⟩
abbrev cX11_told : ByteArray := prog_13_method_47_code
def yX11_told : MethodName := ⟨RX11, "told", "(I)I"⟩
def RJ9 : String := "java/lang/Math"
def TJ9 : u_T := fun k => match k with
  | _ => ("", "", "", false)
def tyJ9 : Nat → FieldType := fun k => match k with
  | _ => .int
abbrev wsJ90 : List Cond := u_ws RJ9 TJ9 0
theorem nmJ9 : ∀ a, a < 0 → ∀ b, b < 0 → a ≠ b → (TJ9 a).2.1 ≠ (TJ9 b).2.1 := by decide +kernel
theorem tyJ9_ok : ∀ k, k < 0 → parseFieldDescriptor (TJ9 k).2.2.1 = some (tyJ9 k) := by decide +kernel
abbrev cJ9_max_7cf53 : ByteArray := prog_14_method_65_code
def yJ9_max_7cf53 : MethodName := ⟨RJ9, "max", "(II)I"⟩
abbrev cJ9_min_7cf53 : ByteArray := prog_14_method_69_code
def yJ9_min_7cf53 : MethodName := ⟨RJ9, "min", "(II)I"⟩
def RL : String := "WordTablesLaw"
abbrev cL_cell : ByteArray := method_2_code
def yL_cell : MethodName := ⟨RL, "cell", "([II)I"⟩
abbrev cL_law : ByteArray := code
def yL_law : MethodName := ⟨RL, "law", "([I)Z"⟩
def wsX0_init : List Cond := .code yX0_init cX0_init 1 none :: ([.methodLink RX0 1 objectInit, .instanceMethod objectInit, .code objectInit ⟨#[0xb1]⟩ 1 none])
def wsX0_clear : List Cond := .code yX0_clear cX0_clear 1 none :: ([.fieldLink RX0 7 "WordTables$Common" "shared" "I", .fieldLink RX0 13 "WordTables$Common" "length" "I"] ++ wsX00)
def wsX0_accept : List Cond := .code yX0_accept cX0_accept 3 (some .boolean) :: ([.fieldLink RX0 13 "WordTables$Common" "length" "I", .fieldLink RX0 7 "WordTables$Common" "shared" "I"] ++ wsX00)
def wsX1_init : List Cond := .code yX1_init cX1_init 4 none :: ([.methodLink RX1 3 objectInit, .instanceMethod objectInit, .code objectInit ⟨#[0xb1]⟩ 1 none, .fieldLink RX1 9 "WordTables$Cutter" "letters" "LWordTables$Letters;", .fieldLink RX1 15 "WordTables$Cutter" "vocabulary" "LWordTables$Vocabulary;", .fieldLink RX1 19 "WordTables$Cutter" "line" "LWordTables$Row;"] ++ wsX10)
def wsX4_clear : List Cond := .code yX4_clear cX4_clear 1 none :: ([.fieldLink RX4 21 "WordTables$Row" "count" "I"] ++ wsX40)
def wsX4_byteAt : List Cond := .code yX4_byteAt cX4_byteAt 2 (some .int) :: ([.fieldLink RX4 21 "WordTables$Row" "count" "I", .fieldLink RX4 15 "WordTables$Row" "bytes" "[I"] ++ wsX40)
def wsX4_put : List Cond := .code yX4_put cX4_put 2 none :: ([.fieldLink RX4 21 "WordTables$Row" "count" "I", .fieldLink RX4 15 "WordTables$Row" "bytes" "[I"] ++ wsX40)
def wsX4_copyFrom : List Cond := .code yX4_copyFrom cX4_copyFrom 3 none :: ([.fieldLink RX4 21 "WordTables$Row" "count" "I", .methodLink RX4 25 yX4_clear, .instanceMethod yX4_clear, .selects RX4 yX4_clear yX4_clear, .initialized RX4, .code yX4_clear cX4_clear 1 none, .methodLink RX4 28 yX4_byteAt, .instanceMethod yX4_byteAt, .selects RX4 yX4_byteAt yX4_byteAt, .code yX4_byteAt cX4_byteAt 2 (some .int), .fieldLink RX4 15 "WordTables$Row" "bytes" "[I", .methodLink RX4 32 yX4_put, .instanceMethod yX4_put, .selects RX4 yX4_put yX4_put, .code yX4_put cX4_put 2 none] ++ wsX40)
def wsX7_startOn : List Cond := .code yX7_startOn cX7_startOn 2 none :: ([.fieldLink RX7 14 "WordTables$Tokens" "text" "LWordTables$Row;", .fieldLink RX7 33 "WordTables$Tokens" "count" "I", .fieldLink RX7 41 "WordTables$Tokens" "tooMany" "Z", .methodLink RX7 37 yX4_copyFrom, .instanceMethod yX4_copyFrom, .selects RX4 yX4_copyFrom yX4_copyFrom, .initialized RX4, .code yX4_copyFrom cX4_copyFrom 3 none, .fieldLink RX4 21 "WordTables$Row" "count" "I", .methodLink RX4 25 yX4_clear, .instanceMethod yX4_clear, .selects RX4 yX4_clear yX4_clear, .code yX4_clear cX4_clear 1 none, .methodLink RX4 28 yX4_byteAt, .instanceMethod yX4_byteAt, .selects RX4 yX4_byteAt yX4_byteAt, .code yX4_byteAt cX4_byteAt 2 (some .int), .fieldLink RX4 15 "WordTables$Row" "bytes" "[I", .methodLink RX4 32 yX4_put, .instanceMethod yX4_put, .selects RX4 yX4_put yX4_put, .code yX4_put cX4_put 2 none] ++ wsX70 ++ wsX40)
def wsX3_isSmall : List Cond := .code yX3_isSmall cX3_isSmall 1 (some .boolean) :: ([])
def wsX3_isFoldable : List Cond := .code yX3_isFoldable cX3_isFoldable 1 (some .boolean) :: ([])
def wsX3_isLetter : List Cond := .code yX3_isLetter cX3_isLetter 1 (some .boolean) :: ([.methodLink RX3 17 yX3_isSmall, .static yX3_isSmall, .initialized RX3, .code yX3_isSmall cX3_isSmall 1 (some .boolean), .methodLink RX3 21 yX3_isFoldable, .static yX3_isFoldable, .code yX3_isFoldable cX3_isFoldable 1 (some .boolean)])
def wsX8_known : List Cond := .code yX8_known cX8_known 2 (some (.object "WordTables$Word")) :: ([.fieldLink RX8 27 "WordTables$Vocabulary" "wordCount" "I", .fieldLink RX8 17 "WordTables$Vocabulary" "words" "[LWordTables$Word;"] ++ wsX80)
def wsX3_folded : List Cond := .code yX3_folded cX3_folded 3 (some .int) :: ([.fieldLink RX3 13 "WordTables$Letters" "folds" "[I"] ++ wsX30)
def wsX3_areLike : List Cond := .code yX3_areLike cX3_areLike 7 (some .boolean) :: ([.fieldLink RX3 24 "WordTables$Row" "count" "I", .fieldLink RX3 7 "WordTables$Letters" "cut" "I", .methodLink RX3 29 Lib.Math.min.name, .static Lib.Math.min.name, .initialized "java/lang/Math", .code Lib.Math.min.name Lib.Math.min.code 2 (some .int), .methodLink RX3 35 yX4_byteAt, .instanceMethod yX4_byteAt, .selects RX4 yX4_byteAt yX4_byteAt, .initialized RX4, .code yX4_byteAt cX4_byteAt 2 (some .int), .fieldLink RX4 21 "WordTables$Row" "count" "I", .fieldLink RX4 15 "WordTables$Row" "bytes" "[I", .methodLink RX3 39 yX3_folded, .instanceMethod yX3_folded, .selects RX3 yX3_folded yX3_folded, .initialized RX3, .code yX3_folded cX3_folded 3 (some .int), .fieldLink RX3 13 "WordTables$Letters" "folds" "[I"] ++ wsX40 ++ wsX30)
def wsX8_likeIn_r1 : List Cond := [Cond.fieldLink RX8 27 "WordTables$Vocabulary" "wordCount" "I", Cond.fieldLink RX8 35 "WordTables$Word" "language" "I", Cond.fieldLink RX8 9 "WordTables$Vocabulary" "letters" "LWordTables$Letters;", Cond.fieldLink RX8 38 "WordTables$Word" "spelling" "LWordTables$Row;", Cond.methodLink RX8 31 yX8_known, Cond.instanceMethod yX8_known, Cond.selects RX8 yX8_known yX8_known, Cond.initialized RX8, Cond.code yX8_known cX8_known 2 (some (.object "WordTables$Word")), Cond.fieldLink RX8 17 "WordTables$Vocabulary" "words" "[LWordTables$Word;", Cond.methodLink RX8 42 yX3_areLike, Cond.instanceMethod yX3_areLike, Cond.selects RX3 yX3_areLike yX3_areLike, Cond.initialized RX3, Cond.code yX3_areLike cX3_areLike 7 (some .boolean), Cond.fieldLink RX3 24 "WordTables$Row" "count" "I", Cond.fieldLink RX3 7 "WordTables$Letters" "cut" "I", Cond.methodLink RX3 29 Lib.Math.min.name, Cond.static Lib.Math.min.name, Cond.initialized "java/lang/Math", Cond.code Lib.Math.min.name Lib.Math.min.code 2 (some .int), Cond.methodLink RX3 35 yX4_byteAt, Cond.instanceMethod yX4_byteAt, Cond.selects RX4 yX4_byteAt yX4_byteAt]
def wsX8_likeIn_r2 : List Cond := [Cond.initialized RX4, Cond.code yX4_byteAt cX4_byteAt 2 (some .int), Cond.fieldLink RX4 21 "WordTables$Row" "count" "I", Cond.fieldLink RX4 15 "WordTables$Row" "bytes" "[I", Cond.methodLink RX3 39 yX3_folded, Cond.instanceMethod yX3_folded, Cond.selects RX3 yX3_folded yX3_folded, Cond.code yX3_folded cX3_folded 3 (some .int), Cond.fieldLink RX3 13 "WordTables$Letters" "folds" "[I"]
def wsX8_likeIn : List Cond := .code yX8_likeIn cX8_likeIn 7 (some .int) :: ((wsX8_likeIn_r1 ++ wsX8_likeIn_r2) ++ wsX80 ++ wsX90 ++ wsX40 ++ wsX30)
def wsX7_add : List Cond := .code yX7_add cX7_add 5 none :: ([.fieldLink RX7 33 "WordTables$Tokens" "count" "I", .fieldLink RX7 41 "WordTables$Tokens" "tooMany" "Z", .fieldLink RX7 20 "WordTables$Tokens" "sorts" "[I", .fieldLink RX7 24 "WordTables$Tokens" "places" "[I", .fieldLink RX7 27 "WordTables$Tokens" "lengths" "[I", .fieldLink RX7 30 "WordTables$Tokens" "numbers" "[I"] ++ wsX70)
def wsX1_addUpTo : List Cond := .code yX1_addUpTo cX1_addUpTo 5 (some .int) :: ([.fieldLink RX1 27 "WordTables$Cutter" "into" "LWordTables$Tokens;", .methodLink RX1 81 yX7_add, .instanceMethod yX7_add, .selects RX7 yX7_add yX7_add, .initialized RX7, .code yX7_add cX7_add 5 none, .fieldLink RX7 33 "WordTables$Tokens" "count" "I", .fieldLink RX7 41 "WordTables$Tokens" "tooMany" "Z", .fieldLink RX7 20 "WordTables$Tokens" "sorts" "[I", .fieldLink RX7 24 "WordTables$Tokens" "places" "[I", .fieldLink RX7 27 "WordTables$Tokens" "lengths" "[I", .fieldLink RX7 30 "WordTables$Tokens" "numbers" "[I"] ++ wsX10 ++ wsX70)
def wsX8_joinLike_r1 : List Cond := [Cond.fieldLink RX8 48 "WordTables$Vocabulary" "joinCount" "I", Cond.fieldLink RX8 23 "WordTables$Vocabulary" "joins" "[LWordTables$Join;", Cond.fieldLink RX8 9 "WordTables$Vocabulary" "letters" "LWordTables$Letters;", Cond.fieldLink RX8 51 "WordTables$Join" "spelling" "LWordTables$Row;", Cond.methodLink RX8 42 yX3_areLike, Cond.instanceMethod yX3_areLike, Cond.selects RX3 yX3_areLike yX3_areLike, Cond.initialized RX3, Cond.code yX3_areLike cX3_areLike 7 (some .boolean), Cond.fieldLink RX3 24 "WordTables$Row" "count" "I", Cond.fieldLink RX3 7 "WordTables$Letters" "cut" "I", Cond.methodLink RX3 29 Lib.Math.min.name, Cond.static Lib.Math.min.name, Cond.initialized "java/lang/Math", Cond.code Lib.Math.min.name Lib.Math.min.code 2 (some .int), Cond.methodLink RX3 35 yX4_byteAt, Cond.instanceMethod yX4_byteAt, Cond.selects RX4 yX4_byteAt yX4_byteAt, Cond.initialized RX4, Cond.code yX4_byteAt cX4_byteAt 2 (some .int), Cond.fieldLink RX4 21 "WordTables$Row" "count" "I", Cond.fieldLink RX4 15 "WordTables$Row" "bytes" "[I", Cond.methodLink RX3 39 yX3_folded, Cond.instanceMethod yX3_folded]
def wsX8_joinLike_r2 : List Cond := [Cond.selects RX3 yX3_folded yX3_folded, Cond.code yX3_folded cX3_folded 3 (some .int), Cond.fieldLink RX3 13 "WordTables$Letters" "folds" "[I"]
def wsX8_joinLike : List Cond := .code yX8_joinLike cX8_joinLike 6 (some (.object "WordTables$Join")) :: ((wsX8_joinLike_r1 ++ wsX8_joinLike_r2) ++ wsX80 ++ wsX20 ++ wsX40 ++ wsX30)
def wsX1_cutLetters_r1 : List Cond := [Cond.fieldLink RX1 19 "WordTables$Cutter" "line" "LWordTables$Row;", Cond.fieldLink RX1 37 "WordTables$Row" "count" "I", Cond.fieldLink RX1 15 "WordTables$Cutter" "vocabulary" "LWordTables$Vocabulary;", Cond.fieldLink RX1 23 "WordTables$Cutter" "language" "I", Cond.fieldLink RX1 95 "WordTables$Join" "first" "I", Cond.fieldLink RX1 100 "WordTables$Join" "second" "I", Cond.methodLink RX1 50 yX4_byteAt, Cond.instanceMethod yX4_byteAt, Cond.selects RX4 yX4_byteAt yX4_byteAt, Cond.initialized RX4, Cond.code yX4_byteAt cX4_byteAt 2 (some .int), Cond.fieldLink RX4 21 "WordTables$Row" "count" "I", Cond.fieldLink RX4 15 "WordTables$Row" "bytes" "[I", Cond.methodLink RX1 53 yX3_isLetter, Cond.static yX3_isLetter, Cond.initialized RX3, Cond.code yX3_isLetter cX3_isLetter 1 (some .boolean), Cond.methodLink RX3 17 yX3_isSmall, Cond.static yX3_isSmall, Cond.code yX3_isSmall cX3_isSmall 1 (some .boolean), Cond.methodLink RX3 21 yX3_isFoldable, Cond.static yX3_isFoldable, Cond.code yX3_isFoldable cX3_isFoldable 1 (some .boolean), Cond.methodLink RX1 85 yX8_likeIn]
def wsX1_cutLetters_r2 : List Cond := [Cond.instanceMethod yX8_likeIn, Cond.selects RX8 yX8_likeIn yX8_likeIn, Cond.initialized RX8, Cond.code yX8_likeIn cX8_likeIn 7 (some .int), Cond.fieldLink RX8 27 "WordTables$Vocabulary" "wordCount" "I", Cond.fieldLink RX8 35 "WordTables$Word" "language" "I", Cond.fieldLink RX8 9 "WordTables$Vocabulary" "letters" "LWordTables$Letters;", Cond.fieldLink RX8 38 "WordTables$Word" "spelling" "LWordTables$Row;", Cond.methodLink RX8 31 yX8_known, Cond.instanceMethod yX8_known, Cond.selects RX8 yX8_known yX8_known, Cond.code yX8_known cX8_known 2 (some (.object "WordTables$Word")), Cond.fieldLink RX8 17 "WordTables$Vocabulary" "words" "[LWordTables$Word;", Cond.methodLink RX8 42 yX3_areLike, Cond.instanceMethod yX3_areLike, Cond.selects RX3 yX3_areLike yX3_areLike, Cond.code yX3_areLike cX3_areLike 7 (some .boolean), Cond.fieldLink RX3 24 "WordTables$Row" "count" "I", Cond.fieldLink RX3 7 "WordTables$Letters" "cut" "I", Cond.methodLink RX3 29 Lib.Math.min.name, Cond.static Lib.Math.min.name, Cond.initialized "java/lang/Math", Cond.code Lib.Math.min.name Lib.Math.min.code 2 (some .int), Cond.methodLink RX3 35 yX4_byteAt]
def wsX1_cutLetters_r3 : List Cond := [Cond.methodLink RX3 39 yX3_folded, Cond.instanceMethod yX3_folded, Cond.selects RX3 yX3_folded yX3_folded, Cond.code yX3_folded cX3_folded 3 (some .int), Cond.fieldLink RX3 13 "WordTables$Letters" "folds" "[I", Cond.methodLink RX1 74 yX1_addUpTo, Cond.instanceMethod yX1_addUpTo, Cond.selects RX1 yX1_addUpTo yX1_addUpTo, Cond.initialized RX1, Cond.code yX1_addUpTo cX1_addUpTo 5 (some .int), Cond.fieldLink RX1 27 "WordTables$Cutter" "into" "LWordTables$Tokens;", Cond.methodLink RX1 81 yX7_add, Cond.instanceMethod yX7_add, Cond.selects RX7 yX7_add yX7_add, Cond.initialized RX7, Cond.code yX7_add cX7_add 5 none, Cond.fieldLink RX7 33 "WordTables$Tokens" "count" "I", Cond.fieldLink RX7 41 "WordTables$Tokens" "tooMany" "Z", Cond.fieldLink RX7 20 "WordTables$Tokens" "sorts" "[I", Cond.fieldLink RX7 24 "WordTables$Tokens" "places" "[I", Cond.fieldLink RX7 27 "WordTables$Tokens" "lengths" "[I", Cond.fieldLink RX7 30 "WordTables$Tokens" "numbers" "[I", Cond.methodLink RX1 91 yX8_joinLike, Cond.instanceMethod yX8_joinLike]
def wsX1_cutLetters_r4 : List Cond := [Cond.selects RX8 yX8_joinLike yX8_joinLike, Cond.code yX8_joinLike cX8_joinLike 6 (some (.object "WordTables$Join")), Cond.fieldLink RX8 48 "WordTables$Vocabulary" "joinCount" "I", Cond.fieldLink RX8 23 "WordTables$Vocabulary" "joins" "[LWordTables$Join;", Cond.fieldLink RX8 51 "WordTables$Join" "spelling" "LWordTables$Row;"]
def wsX1_cutLetters : List Cond := .code yX1_cutLetters cX1_cutLetters 5 (some .int) :: ((wsX1_cutLetters_r1 ++ (wsX1_cutLetters_r2 ++ (wsX1_cutLetters_r3 ++ wsX1_cutLetters_r4))) ++ wsX10 ++ wsX40 ++ wsX20 ++ wsX80 ++ wsX90 ++ wsX30 ++ wsX70)
def wsX1_isDigit : List Cond := .code yX1_isDigit cX1_isDigit 1 (some .boolean) :: ([])
def wsX1_endOfDigits : List Cond := .code yX1_endOfDigits cX1_endOfDigits 3 (some .int) :: ([.fieldLink RX1 19 "WordTables$Cutter" "line" "LWordTables$Row;", .fieldLink RX1 37 "WordTables$Row" "count" "I", .methodLink RX1 50 yX4_byteAt, .instanceMethod yX4_byteAt, .selects RX4 yX4_byteAt yX4_byteAt, .initialized RX4, .code yX4_byteAt cX4_byteAt 2 (some .int), .fieldLink RX4 21 "WordTables$Row" "count" "I", .fieldLink RX4 15 "WordTables$Row" "bytes" "[I", .methodLink RX1 62 yX1_isDigit, .static yX1_isDigit, .initialized RX1, .code yX1_isDigit cX1_isDigit 1 (some .boolean)] ++ wsX10 ++ wsX40)
def wsX1_numberOf : List Cond := .code yX1_numberOf cX1_numberOf 5 (some .int) :: ([.fieldLink RX1 19 "WordTables$Cutter" "line" "LWordTables$Row;", .methodLink RX1 126 Lib.Math.min.name, .static Lib.Math.min.name, .initialized "java/lang/Math", .code Lib.Math.min.name Lib.Math.min.code 2 (some .int), .methodLink RX1 50 yX4_byteAt, .instanceMethod yX4_byteAt, .selects RX4 yX4_byteAt yX4_byteAt, .initialized RX4, .code yX4_byteAt cX4_byteAt 2 (some .int), .fieldLink RX4 21 "WordTables$Row" "count" "I", .fieldLink RX4 15 "WordTables$Row" "bytes" "[I"] ++ wsX10 ++ wsX40)
def wsX1_isTime_r1 : List Cond := [Cond.fieldLink RX1 19 "WordTables$Cutter" "line" "LWordTables$Row;", Cond.methodLink RX1 50 yX4_byteAt, Cond.instanceMethod yX4_byteAt, Cond.selects RX4 yX4_byteAt yX4_byteAt, Cond.initialized RX4, Cond.code yX4_byteAt cX4_byteAt 2 (some .int), Cond.fieldLink RX4 21 "WordTables$Row" "count" "I", Cond.fieldLink RX4 15 "WordTables$Row" "bytes" "[I", Cond.methodLink RX1 103 yX1_endOfDigits, Cond.instanceMethod yX1_endOfDigits, Cond.selects RX1 yX1_endOfDigits yX1_endOfDigits, Cond.initialized RX1, Cond.code yX1_endOfDigits cX1_endOfDigits 3 (some .int), Cond.fieldLink RX1 37 "WordTables$Row" "count" "I", Cond.methodLink RX1 62 yX1_isDigit, Cond.static yX1_isDigit, Cond.code yX1_isDigit cX1_isDigit 1 (some .boolean), Cond.methodLink RX1 114 yX1_numberOf, Cond.instanceMethod yX1_numberOf, Cond.selects RX1 yX1_numberOf yX1_numberOf, Cond.code yX1_numberOf cX1_numberOf 5 (some .int), Cond.methodLink RX1 126 Lib.Math.min.name, Cond.static Lib.Math.min.name, Cond.initialized "java/lang/Math"]
def wsX1_isTime_r2 : List Cond := [Cond.code Lib.Math.min.name Lib.Math.min.code 2 (some .int)]
def wsX1_isTime : List Cond := .code yX1_isTime cX1_isTime 3 (some .boolean) :: ((wsX1_isTime_r1 ++ wsX1_isTime_r2) ++ wsX10 ++ wsX40)
def wsX1_isHalfOfDay : List Cond := .code yX1_isHalfOfDay cX1_isHalfOfDay 3 (some .boolean) :: ([.fieldLink RX1 9 "WordTables$Cutter" "letters" "LWordTables$Letters;", .fieldLink RX1 19 "WordTables$Cutter" "line" "LWordTables$Row;", .methodLink RX1 50 yX4_byteAt, .instanceMethod yX4_byteAt, .selects RX4 yX4_byteAt yX4_byteAt, .initialized RX4, .code yX4_byteAt cX4_byteAt 2 (some .int), .fieldLink RX4 21 "WordTables$Row" "count" "I", .fieldLink RX4 15 "WordTables$Row" "bytes" "[I", .methodLink RX1 120 yX3_folded, .instanceMethod yX3_folded, .selects RX3 yX3_folded yX3_folded, .initialized RX3, .code yX3_folded cX3_folded 3 (some .int), .fieldLink RX3 13 "WordTables$Letters" "folds" "[I", .methodLink RX1 53 yX3_isLetter, .static yX3_isLetter, .code yX3_isLetter cX3_isLetter 1 (some .boolean), .methodLink RX3 17 yX3_isSmall, .static yX3_isSmall, .code yX3_isSmall cX3_isSmall 1 (some .boolean), .methodLink RX3 21 yX3_isFoldable, .static yX3_isFoldable, .code yX3_isFoldable cX3_isFoldable 1 (some .boolean)] ++ wsX10 ++ wsX40 ++ wsX30)
def wsX1_cutTime_r1 : List Cond := [Cond.fieldLink RX1 9 "WordTables$Cutter" "letters" "LWordTables$Letters;", Cond.fieldLink RX1 19 "WordTables$Cutter" "line" "LWordTables$Row;", Cond.methodLink RX1 114 yX1_numberOf, Cond.instanceMethod yX1_numberOf, Cond.selects RX1 yX1_numberOf yX1_numberOf, Cond.initialized RX1, Cond.code yX1_numberOf cX1_numberOf 5 (some .int), Cond.methodLink RX1 126 Lib.Math.min.name, Cond.static Lib.Math.min.name, Cond.initialized "java/lang/Math", Cond.code Lib.Math.min.name Lib.Math.min.code 2 (some .int), Cond.methodLink RX1 50 yX4_byteAt, Cond.instanceMethod yX4_byteAt, Cond.selects RX4 yX4_byteAt yX4_byteAt, Cond.initialized RX4, Cond.code yX4_byteAt cX4_byteAt 2 (some .int), Cond.fieldLink RX4 21 "WordTables$Row" "count" "I", Cond.fieldLink RX4 15 "WordTables$Row" "bytes" "[I", Cond.methodLink RX1 117 yX1_isHalfOfDay, Cond.instanceMethod yX1_isHalfOfDay, Cond.selects RX1 yX1_isHalfOfDay yX1_isHalfOfDay, Cond.code yX1_isHalfOfDay cX1_isHalfOfDay 3 (some .boolean), Cond.methodLink RX1 120 yX3_folded, Cond.instanceMethod yX3_folded]
def wsX1_cutTime_r2 : List Cond := [Cond.selects RX3 yX3_folded yX3_folded, Cond.initialized RX3, Cond.code yX3_folded cX3_folded 3 (some .int), Cond.fieldLink RX3 13 "WordTables$Letters" "folds" "[I", Cond.methodLink RX1 53 yX3_isLetter, Cond.static yX3_isLetter, Cond.code yX3_isLetter cX3_isLetter 1 (some .boolean), Cond.methodLink RX3 17 yX3_isSmall, Cond.static yX3_isSmall, Cond.code yX3_isSmall cX3_isSmall 1 (some .boolean), Cond.methodLink RX3 21 yX3_isFoldable, Cond.static yX3_isFoldable, Cond.code yX3_isFoldable cX3_isFoldable 1 (some .boolean), Cond.methodLink RX1 74 yX1_addUpTo, Cond.instanceMethod yX1_addUpTo, Cond.selects RX1 yX1_addUpTo yX1_addUpTo, Cond.code yX1_addUpTo cX1_addUpTo 5 (some .int), Cond.fieldLink RX1 27 "WordTables$Cutter" "into" "LWordTables$Tokens;", Cond.methodLink RX1 81 yX7_add, Cond.instanceMethod yX7_add, Cond.selects RX7 yX7_add yX7_add, Cond.initialized RX7, Cond.code yX7_add cX7_add 5 none, Cond.fieldLink RX7 33 "WordTables$Tokens" "count" "I"]
def wsX1_cutTime_r3 : List Cond := [Cond.fieldLink RX7 41 "WordTables$Tokens" "tooMany" "Z", Cond.fieldLink RX7 20 "WordTables$Tokens" "sorts" "[I", Cond.fieldLink RX7 24 "WordTables$Tokens" "places" "[I", Cond.fieldLink RX7 27 "WordTables$Tokens" "lengths" "[I", Cond.fieldLink RX7 30 "WordTables$Tokens" "numbers" "[I"]
def wsX1_cutTime : List Cond := .code yX1_cutTime cX1_cutTime 6 (some .int) :: ((wsX1_cutTime_r1 ++ (wsX1_cutTime_r2 ++ wsX1_cutTime_r3)) ++ wsX10 ++ wsX40 ++ wsX30 ++ wsX70)
def wsX1_cutDigits_r1 : List Cond := [Cond.methodLink RX1 103 yX1_endOfDigits, Cond.instanceMethod yX1_endOfDigits, Cond.selects RX1 yX1_endOfDigits yX1_endOfDigits, Cond.initialized RX1, Cond.code yX1_endOfDigits cX1_endOfDigits 3 (some .int), Cond.fieldLink RX1 19 "WordTables$Cutter" "line" "LWordTables$Row;", Cond.fieldLink RX1 37 "WordTables$Row" "count" "I", Cond.methodLink RX1 50 yX4_byteAt, Cond.instanceMethod yX4_byteAt, Cond.selects RX4 yX4_byteAt yX4_byteAt, Cond.initialized RX4, Cond.code yX4_byteAt cX4_byteAt 2 (some .int), Cond.fieldLink RX4 21 "WordTables$Row" "count" "I", Cond.fieldLink RX4 15 "WordTables$Row" "bytes" "[I", Cond.methodLink RX1 62 yX1_isDigit, Cond.static yX1_isDigit, Cond.code yX1_isDigit cX1_isDigit 1 (some .boolean), Cond.methodLink RX1 106 yX1_isTime, Cond.instanceMethod yX1_isTime, Cond.selects RX1 yX1_isTime yX1_isTime, Cond.code yX1_isTime cX1_isTime 3 (some .boolean), Cond.methodLink RX1 114 yX1_numberOf, Cond.instanceMethod yX1_numberOf, Cond.selects RX1 yX1_numberOf yX1_numberOf]
def wsX1_cutDigits_r2 : List Cond := [Cond.code yX1_numberOf cX1_numberOf 5 (some .int), Cond.methodLink RX1 126 Lib.Math.min.name, Cond.static Lib.Math.min.name, Cond.initialized "java/lang/Math", Cond.code Lib.Math.min.name Lib.Math.min.code 2 (some .int), Cond.methodLink RX1 110 yX1_cutTime, Cond.instanceMethod yX1_cutTime, Cond.selects RX1 yX1_cutTime yX1_cutTime, Cond.code yX1_cutTime cX1_cutTime 6 (some .int), Cond.fieldLink RX1 9 "WordTables$Cutter" "letters" "LWordTables$Letters;", Cond.methodLink RX1 117 yX1_isHalfOfDay, Cond.instanceMethod yX1_isHalfOfDay, Cond.selects RX1 yX1_isHalfOfDay yX1_isHalfOfDay, Cond.code yX1_isHalfOfDay cX1_isHalfOfDay 3 (some .boolean), Cond.methodLink RX1 120 yX3_folded, Cond.instanceMethod yX3_folded, Cond.selects RX3 yX3_folded yX3_folded, Cond.initialized RX3, Cond.code yX3_folded cX3_folded 3 (some .int), Cond.fieldLink RX3 13 "WordTables$Letters" "folds" "[I", Cond.methodLink RX1 53 yX3_isLetter, Cond.static yX3_isLetter, Cond.code yX3_isLetter cX3_isLetter 1 (some .boolean), Cond.methodLink RX3 17 yX3_isSmall]
def wsX1_cutDigits_r3 : List Cond := [Cond.static yX3_isSmall, Cond.code yX3_isSmall cX3_isSmall 1 (some .boolean), Cond.methodLink RX3 21 yX3_isFoldable, Cond.static yX3_isFoldable, Cond.code yX3_isFoldable cX3_isFoldable 1 (some .boolean), Cond.methodLink RX1 74 yX1_addUpTo, Cond.instanceMethod yX1_addUpTo, Cond.selects RX1 yX1_addUpTo yX1_addUpTo, Cond.code yX1_addUpTo cX1_addUpTo 5 (some .int), Cond.fieldLink RX1 27 "WordTables$Cutter" "into" "LWordTables$Tokens;", Cond.methodLink RX1 81 yX7_add, Cond.instanceMethod yX7_add, Cond.selects RX7 yX7_add yX7_add, Cond.initialized RX7, Cond.code yX7_add cX7_add 5 none, Cond.fieldLink RX7 33 "WordTables$Tokens" "count" "I", Cond.fieldLink RX7 41 "WordTables$Tokens" "tooMany" "Z", Cond.fieldLink RX7 20 "WordTables$Tokens" "sorts" "[I", Cond.fieldLink RX7 24 "WordTables$Tokens" "places" "[I", Cond.fieldLink RX7 27 "WordTables$Tokens" "lengths" "[I", Cond.fieldLink RX7 30 "WordTables$Tokens" "numbers" "[I"]
def wsX1_cutDigits : List Cond := .code yX1_cutDigits cX1_cutDigits 4 (some .int) :: ((wsX1_cutDigits_r1 ++ (wsX1_cutDigits_r2 ++ wsX1_cutDigits_r3)) ++ wsX10 ++ wsX40 ++ wsX30 ++ wsX70)
def wsX1_cutQuoted_r1 : List Cond := [Cond.fieldLink RX1 19 "WordTables$Cutter" "line" "LWordTables$Row;", Cond.fieldLink RX1 37 "WordTables$Row" "count" "I", Cond.methodLink RX1 50 yX4_byteAt, Cond.instanceMethod yX4_byteAt, Cond.selects RX4 yX4_byteAt yX4_byteAt, Cond.initialized RX4, Cond.code yX4_byteAt cX4_byteAt 2 (some .int), Cond.fieldLink RX4 21 "WordTables$Row" "count" "I", Cond.fieldLink RX4 15 "WordTables$Row" "bytes" "[I", Cond.methodLink RX1 74 yX1_addUpTo, Cond.instanceMethod yX1_addUpTo, Cond.selects RX1 yX1_addUpTo yX1_addUpTo, Cond.initialized RX1, Cond.code yX1_addUpTo cX1_addUpTo 5 (some .int), Cond.fieldLink RX1 27 "WordTables$Cutter" "into" "LWordTables$Tokens;", Cond.methodLink RX1 81 yX7_add, Cond.instanceMethod yX7_add, Cond.selects RX7 yX7_add yX7_add, Cond.initialized RX7, Cond.code yX7_add cX7_add 5 none, Cond.fieldLink RX7 33 "WordTables$Tokens" "count" "I", Cond.fieldLink RX7 41 "WordTables$Tokens" "tooMany" "Z", Cond.fieldLink RX7 20 "WordTables$Tokens" "sorts" "[I", Cond.fieldLink RX7 24 "WordTables$Tokens" "places" "[I"]
def wsX1_cutQuoted_r2 : List Cond := [Cond.fieldLink RX7 27 "WordTables$Tokens" "lengths" "[I", Cond.fieldLink RX7 30 "WordTables$Tokens" "numbers" "[I"]
def wsX1_cutQuoted : List Cond := .code yX1_cutQuoted cX1_cutQuoted 3 (some .int) :: ((wsX1_cutQuoted_r1 ++ wsX1_cutQuoted_r2) ++ wsX10 ++ wsX40 ++ wsX70)
def wsX1_isMark : List Cond := .code yX1_isMark cX1_isMark 1 (some .boolean) :: ([])
def wsX1_isOther : List Cond := .code yX1_isOther cX1_isOther 1 (some .boolean) :: ([.methodLink RX1 71 yX1_isMark, .static yX1_isMark, .initialized RX1, .code yX1_isMark cX1_isMark 1 (some .boolean), .methodLink RX1 62 yX1_isDigit, .static yX1_isDigit, .code yX1_isDigit cX1_isDigit 1 (some .boolean), .methodLink RX1 53 yX3_isLetter, .static yX3_isLetter, .initialized RX3, .code yX3_isLetter cX3_isLetter 1 (some .boolean), .methodLink RX3 17 yX3_isSmall, .static yX3_isSmall, .code yX3_isSmall cX3_isSmall 1 (some .boolean), .methodLink RX3 21 yX3_isFoldable, .static yX3_isFoldable, .code yX3_isFoldable cX3_isFoldable 1 (some .boolean)])
def wsX1_cutOther_r1 : List Cond := [Cond.fieldLink RX1 19 "WordTables$Cutter" "line" "LWordTables$Row;", Cond.fieldLink RX1 37 "WordTables$Row" "count" "I", Cond.methodLink RX1 50 yX4_byteAt, Cond.instanceMethod yX4_byteAt, Cond.selects RX4 yX4_byteAt yX4_byteAt, Cond.initialized RX4, Cond.code yX4_byteAt cX4_byteAt 2 (some .int), Cond.fieldLink RX4 21 "WordTables$Row" "count" "I", Cond.fieldLink RX4 15 "WordTables$Row" "bytes" "[I", Cond.methodLink RX1 123 yX1_isOther, Cond.static yX1_isOther, Cond.initialized RX1, Cond.code yX1_isOther cX1_isOther 1 (some .boolean), Cond.methodLink RX1 71 yX1_isMark, Cond.static yX1_isMark, Cond.code yX1_isMark cX1_isMark 1 (some .boolean), Cond.methodLink RX1 62 yX1_isDigit, Cond.static yX1_isDigit, Cond.code yX1_isDigit cX1_isDigit 1 (some .boolean), Cond.methodLink RX1 53 yX3_isLetter, Cond.static yX3_isLetter, Cond.initialized RX3, Cond.code yX3_isLetter cX3_isLetter 1 (some .boolean), Cond.methodLink RX3 17 yX3_isSmall]
def wsX1_cutOther_r2 : List Cond := [Cond.static yX3_isSmall, Cond.code yX3_isSmall cX3_isSmall 1 (some .boolean), Cond.methodLink RX3 21 yX3_isFoldable, Cond.static yX3_isFoldable, Cond.code yX3_isFoldable cX3_isFoldable 1 (some .boolean), Cond.methodLink RX1 74 yX1_addUpTo, Cond.instanceMethod yX1_addUpTo, Cond.selects RX1 yX1_addUpTo yX1_addUpTo, Cond.code yX1_addUpTo cX1_addUpTo 5 (some .int), Cond.fieldLink RX1 27 "WordTables$Cutter" "into" "LWordTables$Tokens;", Cond.methodLink RX1 81 yX7_add, Cond.instanceMethod yX7_add, Cond.selects RX7 yX7_add yX7_add, Cond.initialized RX7, Cond.code yX7_add cX7_add 5 none, Cond.fieldLink RX7 33 "WordTables$Tokens" "count" "I", Cond.fieldLink RX7 41 "WordTables$Tokens" "tooMany" "Z", Cond.fieldLink RX7 20 "WordTables$Tokens" "sorts" "[I", Cond.fieldLink RX7 24 "WordTables$Tokens" "places" "[I", Cond.fieldLink RX7 27 "WordTables$Tokens" "lengths" "[I", Cond.fieldLink RX7 30 "WordTables$Tokens" "numbers" "[I"]
def wsX1_cutOther : List Cond := .code yX1_cutOther cX1_cutOther 3 (some .int) :: ((wsX1_cutOther_r1 ++ wsX1_cutOther_r2) ++ wsX10 ++ wsX40 ++ wsX70)
def wsX1_cutAt_r1 : List Cond := [Cond.fieldLink RX1 19 "WordTables$Cutter" "line" "LWordTables$Row;", Cond.methodLink RX1 50 yX4_byteAt, Cond.instanceMethod yX4_byteAt, Cond.selects RX4 yX4_byteAt yX4_byteAt, Cond.initialized RX4, Cond.code yX4_byteAt cX4_byteAt 2 (some .int), Cond.fieldLink RX4 21 "WordTables$Row" "count" "I", Cond.fieldLink RX4 15 "WordTables$Row" "bytes" "[I", Cond.methodLink RX1 53 yX3_isLetter, Cond.static yX3_isLetter, Cond.initialized RX3, Cond.code yX3_isLetter cX3_isLetter 1 (some .boolean), Cond.methodLink RX3 17 yX3_isSmall, Cond.static yX3_isSmall, Cond.code yX3_isSmall cX3_isSmall 1 (some .boolean), Cond.methodLink RX3 21 yX3_isFoldable, Cond.static yX3_isFoldable, Cond.code yX3_isFoldable cX3_isFoldable 1 (some .boolean), Cond.methodLink RX1 59 yX1_cutLetters, Cond.instanceMethod yX1_cutLetters, Cond.selects RX1 yX1_cutLetters yX1_cutLetters, Cond.initialized RX1, Cond.code yX1_cutLetters cX1_cutLetters 5 (some .int), Cond.fieldLink RX1 37 "WordTables$Row" "count" "I"]
def wsX1_cutAt_r2 : List Cond := [Cond.fieldLink RX1 15 "WordTables$Cutter" "vocabulary" "LWordTables$Vocabulary;", Cond.fieldLink RX1 23 "WordTables$Cutter" "language" "I", Cond.fieldLink RX1 95 "WordTables$Join" "first" "I", Cond.fieldLink RX1 100 "WordTables$Join" "second" "I", Cond.methodLink RX1 85 yX8_likeIn, Cond.instanceMethod yX8_likeIn, Cond.selects RX8 yX8_likeIn yX8_likeIn, Cond.initialized RX8, Cond.code yX8_likeIn cX8_likeIn 7 (some .int), Cond.fieldLink RX8 27 "WordTables$Vocabulary" "wordCount" "I", Cond.fieldLink RX8 35 "WordTables$Word" "language" "I", Cond.fieldLink RX8 9 "WordTables$Vocabulary" "letters" "LWordTables$Letters;", Cond.fieldLink RX8 38 "WordTables$Word" "spelling" "LWordTables$Row;", Cond.methodLink RX8 31 yX8_known, Cond.instanceMethod yX8_known, Cond.selects RX8 yX8_known yX8_known, Cond.code yX8_known cX8_known 2 (some (.object "WordTables$Word")), Cond.fieldLink RX8 17 "WordTables$Vocabulary" "words" "[LWordTables$Word;", Cond.methodLink RX8 42 yX3_areLike, Cond.instanceMethod yX3_areLike, Cond.selects RX3 yX3_areLike yX3_areLike, Cond.code yX3_areLike cX3_areLike 7 (some .boolean), Cond.fieldLink RX3 24 "WordTables$Row" "count" "I", Cond.fieldLink RX3 7 "WordTables$Letters" "cut" "I"]
def wsX1_cutAt_r3 : List Cond := [Cond.methodLink RX3 29 Lib.Math.min.name, Cond.static Lib.Math.min.name, Cond.initialized "java/lang/Math", Cond.code Lib.Math.min.name Lib.Math.min.code 2 (some .int), Cond.methodLink RX3 35 yX4_byteAt, Cond.methodLink RX3 39 yX3_folded, Cond.instanceMethod yX3_folded, Cond.selects RX3 yX3_folded yX3_folded, Cond.code yX3_folded cX3_folded 3 (some .int), Cond.fieldLink RX3 13 "WordTables$Letters" "folds" "[I", Cond.methodLink RX1 74 yX1_addUpTo, Cond.instanceMethod yX1_addUpTo, Cond.selects RX1 yX1_addUpTo yX1_addUpTo, Cond.code yX1_addUpTo cX1_addUpTo 5 (some .int), Cond.fieldLink RX1 27 "WordTables$Cutter" "into" "LWordTables$Tokens;", Cond.methodLink RX1 81 yX7_add, Cond.instanceMethod yX7_add, Cond.selects RX7 yX7_add yX7_add, Cond.initialized RX7, Cond.code yX7_add cX7_add 5 none, Cond.fieldLink RX7 33 "WordTables$Tokens" "count" "I", Cond.fieldLink RX7 41 "WordTables$Tokens" "tooMany" "Z", Cond.fieldLink RX7 20 "WordTables$Tokens" "sorts" "[I", Cond.fieldLink RX7 24 "WordTables$Tokens" "places" "[I"]
def wsX1_cutAt_r4 : List Cond := [Cond.fieldLink RX7 27 "WordTables$Tokens" "lengths" "[I", Cond.fieldLink RX7 30 "WordTables$Tokens" "numbers" "[I", Cond.methodLink RX1 91 yX8_joinLike, Cond.instanceMethod yX8_joinLike, Cond.selects RX8 yX8_joinLike yX8_joinLike, Cond.code yX8_joinLike cX8_joinLike 6 (some (.object "WordTables$Join")), Cond.fieldLink RX8 48 "WordTables$Vocabulary" "joinCount" "I", Cond.fieldLink RX8 23 "WordTables$Vocabulary" "joins" "[LWordTables$Join;", Cond.fieldLink RX8 51 "WordTables$Join" "spelling" "LWordTables$Row;", Cond.methodLink RX1 62 yX1_isDigit, Cond.static yX1_isDigit, Cond.code yX1_isDigit cX1_isDigit 1 (some .boolean), Cond.methodLink RX1 65 yX1_cutDigits, Cond.instanceMethod yX1_cutDigits, Cond.selects RX1 yX1_cutDigits yX1_cutDigits, Cond.code yX1_cutDigits cX1_cutDigits 4 (some .int), Cond.methodLink RX1 103 yX1_endOfDigits, Cond.instanceMethod yX1_endOfDigits, Cond.selects RX1 yX1_endOfDigits yX1_endOfDigits, Cond.code yX1_endOfDigits cX1_endOfDigits 3 (some .int), Cond.methodLink RX1 106 yX1_isTime, Cond.instanceMethod yX1_isTime, Cond.selects RX1 yX1_isTime yX1_isTime, Cond.code yX1_isTime cX1_isTime 3 (some .boolean)]
def wsX1_cutAt_r5 : List Cond := [Cond.methodLink RX1 114 yX1_numberOf, Cond.instanceMethod yX1_numberOf, Cond.selects RX1 yX1_numberOf yX1_numberOf, Cond.code yX1_numberOf cX1_numberOf 5 (some .int), Cond.methodLink RX1 126 Lib.Math.min.name, Cond.methodLink RX1 110 yX1_cutTime, Cond.instanceMethod yX1_cutTime, Cond.selects RX1 yX1_cutTime yX1_cutTime, Cond.code yX1_cutTime cX1_cutTime 6 (some .int), Cond.fieldLink RX1 9 "WordTables$Cutter" "letters" "LWordTables$Letters;", Cond.methodLink RX1 117 yX1_isHalfOfDay, Cond.instanceMethod yX1_isHalfOfDay, Cond.selects RX1 yX1_isHalfOfDay yX1_isHalfOfDay, Cond.code yX1_isHalfOfDay cX1_isHalfOfDay 3 (some .boolean), Cond.methodLink RX1 120 yX3_folded, Cond.methodLink RX1 68 yX1_cutQuoted, Cond.instanceMethod yX1_cutQuoted, Cond.selects RX1 yX1_cutQuoted yX1_cutQuoted, Cond.code yX1_cutQuoted cX1_cutQuoted 3 (some .int), Cond.methodLink RX1 71 yX1_isMark, Cond.static yX1_isMark, Cond.code yX1_isMark cX1_isMark 1 (some .boolean), Cond.methodLink RX1 78 yX1_cutOther, Cond.instanceMethod yX1_cutOther]
def wsX1_cutAt_r6 : List Cond := [Cond.selects RX1 yX1_cutOther yX1_cutOther, Cond.code yX1_cutOther cX1_cutOther 3 (some .int), Cond.methodLink RX1 123 yX1_isOther, Cond.static yX1_isOther, Cond.code yX1_isOther cX1_isOther 1 (some .boolean)]
def wsX1_cutAt : List Cond := .code yX1_cutAt cX1_cutAt 3 (some .int) :: ((wsX1_cutAt_r1 ++ (wsX1_cutAt_r2 ++ (wsX1_cutAt_r3 ++ (wsX1_cutAt_r4 ++ (wsX1_cutAt_r5 ++ wsX1_cutAt_r6))))) ++ wsX10 ++ wsX40 ++ wsX20 ++ wsX80 ++ wsX90 ++ wsX30 ++ wsX70)
def wsX1_cutLine_r1 : List Cond := [Cond.fieldLink RX1 23 "WordTables$Cutter" "language" "I", Cond.fieldLink RX1 27 "WordTables$Cutter" "into" "LWordTables$Tokens;", Cond.fieldLink RX1 19 "WordTables$Cutter" "line" "LWordTables$Row;", Cond.fieldLink RX1 37 "WordTables$Row" "count" "I", Cond.fieldLink RX1 46 "WordTables$Tokens" "tooMany" "Z", Cond.methodLink RX1 31 yX7_startOn, Cond.instanceMethod yX7_startOn, Cond.selects RX7 yX7_startOn yX7_startOn, Cond.initialized RX7, Cond.code yX7_startOn cX7_startOn 2 none, Cond.fieldLink RX7 14 "WordTables$Tokens" "text" "LWordTables$Row;", Cond.fieldLink RX7 33 "WordTables$Tokens" "count" "I", Cond.fieldLink RX7 41 "WordTables$Tokens" "tooMany" "Z", Cond.methodLink RX7 37 yX4_copyFrom, Cond.instanceMethod yX4_copyFrom, Cond.selects RX4 yX4_copyFrom yX4_copyFrom, Cond.initialized RX4, Cond.code yX4_copyFrom cX4_copyFrom 3 none, Cond.fieldLink RX4 21 "WordTables$Row" "count" "I", Cond.methodLink RX4 25 yX4_clear, Cond.instanceMethod yX4_clear, Cond.selects RX4 yX4_clear yX4_clear, Cond.code yX4_clear cX4_clear 1 none, Cond.methodLink RX4 28 yX4_byteAt]
def wsX1_cutLine_r2 : List Cond := [Cond.instanceMethod yX4_byteAt, Cond.selects RX4 yX4_byteAt yX4_byteAt, Cond.code yX4_byteAt cX4_byteAt 2 (some .int), Cond.fieldLink RX4 15 "WordTables$Row" "bytes" "[I", Cond.methodLink RX4 32 yX4_put, Cond.instanceMethod yX4_put, Cond.selects RX4 yX4_put yX4_put, Cond.code yX4_put cX4_put 2 none, Cond.methodLink RX1 42 yX1_cutAt, Cond.instanceMethod yX1_cutAt, Cond.selects RX1 yX1_cutAt yX1_cutAt, Cond.initialized RX1, Cond.code yX1_cutAt cX1_cutAt 3 (some .int), Cond.methodLink RX1 50 yX4_byteAt, Cond.methodLink RX1 53 yX3_isLetter, Cond.static yX3_isLetter, Cond.initialized RX3, Cond.code yX3_isLetter cX3_isLetter 1 (some .boolean), Cond.methodLink RX3 17 yX3_isSmall, Cond.static yX3_isSmall, Cond.code yX3_isSmall cX3_isSmall 1 (some .boolean), Cond.methodLink RX3 21 yX3_isFoldable, Cond.static yX3_isFoldable, Cond.code yX3_isFoldable cX3_isFoldable 1 (some .boolean)]
def wsX1_cutLine_r3 : List Cond := [Cond.methodLink RX1 59 yX1_cutLetters, Cond.instanceMethod yX1_cutLetters, Cond.selects RX1 yX1_cutLetters yX1_cutLetters, Cond.code yX1_cutLetters cX1_cutLetters 5 (some .int), Cond.fieldLink RX1 15 "WordTables$Cutter" "vocabulary" "LWordTables$Vocabulary;", Cond.fieldLink RX1 95 "WordTables$Join" "first" "I", Cond.fieldLink RX1 100 "WordTables$Join" "second" "I", Cond.methodLink RX1 85 yX8_likeIn, Cond.instanceMethod yX8_likeIn, Cond.selects RX8 yX8_likeIn yX8_likeIn, Cond.initialized RX8, Cond.code yX8_likeIn cX8_likeIn 7 (some .int), Cond.fieldLink RX8 27 "WordTables$Vocabulary" "wordCount" "I", Cond.fieldLink RX8 35 "WordTables$Word" "language" "I", Cond.fieldLink RX8 9 "WordTables$Vocabulary" "letters" "LWordTables$Letters;", Cond.fieldLink RX8 38 "WordTables$Word" "spelling" "LWordTables$Row;", Cond.methodLink RX8 31 yX8_known, Cond.instanceMethod yX8_known, Cond.selects RX8 yX8_known yX8_known, Cond.code yX8_known cX8_known 2 (some (.object "WordTables$Word")), Cond.fieldLink RX8 17 "WordTables$Vocabulary" "words" "[LWordTables$Word;", Cond.methodLink RX8 42 yX3_areLike, Cond.instanceMethod yX3_areLike, Cond.selects RX3 yX3_areLike yX3_areLike]
def wsX1_cutLine_r4 : List Cond := [Cond.code yX3_areLike cX3_areLike 7 (some .boolean), Cond.fieldLink RX3 24 "WordTables$Row" "count" "I", Cond.fieldLink RX3 7 "WordTables$Letters" "cut" "I", Cond.methodLink RX3 29 Lib.Math.min.name, Cond.static Lib.Math.min.name, Cond.initialized "java/lang/Math", Cond.code Lib.Math.min.name Lib.Math.min.code 2 (some .int), Cond.methodLink RX3 35 yX4_byteAt, Cond.methodLink RX3 39 yX3_folded, Cond.instanceMethod yX3_folded, Cond.selects RX3 yX3_folded yX3_folded, Cond.code yX3_folded cX3_folded 3 (some .int), Cond.fieldLink RX3 13 "WordTables$Letters" "folds" "[I", Cond.methodLink RX1 74 yX1_addUpTo, Cond.instanceMethod yX1_addUpTo, Cond.selects RX1 yX1_addUpTo yX1_addUpTo, Cond.code yX1_addUpTo cX1_addUpTo 5 (some .int), Cond.methodLink RX1 81 yX7_add, Cond.instanceMethod yX7_add, Cond.selects RX7 yX7_add yX7_add, Cond.code yX7_add cX7_add 5 none, Cond.fieldLink RX7 20 "WordTables$Tokens" "sorts" "[I", Cond.fieldLink RX7 24 "WordTables$Tokens" "places" "[I", Cond.fieldLink RX7 27 "WordTables$Tokens" "lengths" "[I"]
def wsX1_cutLine_r5 : List Cond := [Cond.fieldLink RX7 30 "WordTables$Tokens" "numbers" "[I", Cond.methodLink RX1 91 yX8_joinLike, Cond.instanceMethod yX8_joinLike, Cond.selects RX8 yX8_joinLike yX8_joinLike, Cond.code yX8_joinLike cX8_joinLike 6 (some (.object "WordTables$Join")), Cond.fieldLink RX8 48 "WordTables$Vocabulary" "joinCount" "I", Cond.fieldLink RX8 23 "WordTables$Vocabulary" "joins" "[LWordTables$Join;", Cond.fieldLink RX8 51 "WordTables$Join" "spelling" "LWordTables$Row;", Cond.methodLink RX1 62 yX1_isDigit, Cond.static yX1_isDigit, Cond.code yX1_isDigit cX1_isDigit 1 (some .boolean), Cond.methodLink RX1 65 yX1_cutDigits, Cond.instanceMethod yX1_cutDigits, Cond.selects RX1 yX1_cutDigits yX1_cutDigits, Cond.code yX1_cutDigits cX1_cutDigits 4 (some .int), Cond.methodLink RX1 103 yX1_endOfDigits, Cond.instanceMethod yX1_endOfDigits, Cond.selects RX1 yX1_endOfDigits yX1_endOfDigits, Cond.code yX1_endOfDigits cX1_endOfDigits 3 (some .int), Cond.methodLink RX1 106 yX1_isTime, Cond.instanceMethod yX1_isTime, Cond.selects RX1 yX1_isTime yX1_isTime, Cond.code yX1_isTime cX1_isTime 3 (some .boolean), Cond.methodLink RX1 114 yX1_numberOf]
def wsX1_cutLine_r6 : List Cond := [Cond.instanceMethod yX1_numberOf, Cond.selects RX1 yX1_numberOf yX1_numberOf, Cond.code yX1_numberOf cX1_numberOf 5 (some .int), Cond.methodLink RX1 126 Lib.Math.min.name, Cond.methodLink RX1 110 yX1_cutTime, Cond.instanceMethod yX1_cutTime, Cond.selects RX1 yX1_cutTime yX1_cutTime, Cond.code yX1_cutTime cX1_cutTime 6 (some .int), Cond.fieldLink RX1 9 "WordTables$Cutter" "letters" "LWordTables$Letters;", Cond.methodLink RX1 117 yX1_isHalfOfDay, Cond.instanceMethod yX1_isHalfOfDay, Cond.selects RX1 yX1_isHalfOfDay yX1_isHalfOfDay, Cond.code yX1_isHalfOfDay cX1_isHalfOfDay 3 (some .boolean), Cond.methodLink RX1 120 yX3_folded, Cond.methodLink RX1 68 yX1_cutQuoted, Cond.instanceMethod yX1_cutQuoted, Cond.selects RX1 yX1_cutQuoted yX1_cutQuoted, Cond.code yX1_cutQuoted cX1_cutQuoted 3 (some .int), Cond.methodLink RX1 71 yX1_isMark, Cond.static yX1_isMark, Cond.code yX1_isMark cX1_isMark 1 (some .boolean), Cond.methodLink RX1 78 yX1_cutOther, Cond.instanceMethod yX1_cutOther, Cond.selects RX1 yX1_cutOther yX1_cutOther]
def wsX1_cutLine_r7 : List Cond := [Cond.code yX1_cutOther cX1_cutOther 3 (some .int), Cond.methodLink RX1 123 yX1_isOther, Cond.static yX1_isOther, Cond.code yX1_isOther cX1_isOther 1 (some .boolean)]
def wsX1_cutLine : List Cond := .code yX1_cutLine cX1_cutLine 5 (some .boolean) :: ((wsX1_cutLine_r1 ++ (wsX1_cutLine_r2 ++ (wsX1_cutLine_r3 ++ (wsX1_cutLine_r4 ++ (wsX1_cutLine_r5 ++ (wsX1_cutLine_r6 ++ wsX1_cutLine_r7)))))) ++ wsX10 ++ wsX40 ++ wsX70 ++ wsX20 ++ wsX80 ++ wsX90 ++ wsX30)
def wsX4_init : List Cond := .code yX4_init cX4_init 2 none :: ([.methodLink RX4 3 objectInit, .instanceMethod objectInit, .code objectInit ⟨#[0xb1]⟩ 1 none, .methodLink RX4 9 Lib.Math.max.name, .static Lib.Math.max.name, .initialized "java/lang/Math", .code Lib.Math.max.name Lib.Math.max.code 2 (some .int), .arrayClass .int, .fieldLink RX4 15 "WordTables$Row" "bytes" "[I"] ++ wsX40)
def wsX2_init_r1 : List Cond := [Cond.methodLink RX2 1 objectInit, Cond.instanceMethod objectInit, Cond.code objectInit ⟨#[0xb1]⟩ 1 none, Cond.classLink RX2 7 RX4, Cond.instantiable RX4 2, Cond.initialized RX4, Cond.fieldLink RX2 9 "WordTables$Row" "count" "I", Cond.fieldLink RX2 16 "WordTables$Join" "spelling" "LWordTables$Row;", Cond.fieldLink RX2 26 "WordTables$Join" "first" "I", Cond.fieldLink RX2 29 "WordTables$Join" "second" "I", Cond.methodLink RX2 13 yX4_init, Cond.instanceMethod yX4_init, Cond.code yX4_init cX4_init 2 none, Cond.methodLink RX4 3 objectInit, Cond.methodLink RX4 9 Lib.Math.max.name, Cond.static Lib.Math.max.name, Cond.initialized "java/lang/Math", Cond.code Lib.Math.max.name Lib.Math.max.code 2 (some .int), Cond.arrayClass .int, Cond.fieldLink RX4 15 "WordTables$Row" "bytes" "[I", Cond.methodLink RX2 22 yX4_copyFrom, Cond.instanceMethod yX4_copyFrom, Cond.selects RX4 yX4_copyFrom yX4_copyFrom, Cond.code yX4_copyFrom cX4_copyFrom 3 none]
def wsX2_init_r2 : List Cond := [Cond.fieldLink RX4 21 "WordTables$Row" "count" "I", Cond.methodLink RX4 25 yX4_clear, Cond.instanceMethod yX4_clear, Cond.selects RX4 yX4_clear yX4_clear, Cond.code yX4_clear cX4_clear 1 none, Cond.methodLink RX4 28 yX4_byteAt, Cond.instanceMethod yX4_byteAt, Cond.selects RX4 yX4_byteAt yX4_byteAt, Cond.code yX4_byteAt cX4_byteAt 2 (some .int), Cond.methodLink RX4 32 yX4_put, Cond.instanceMethod yX4_put, Cond.selects RX4 yX4_put yX4_put, Cond.code yX4_put cX4_put 2 none]
def wsX2_init : List Cond := .code yX2_init cX2_init 4 none :: ((wsX2_init_r1 ++ wsX2_init_r2) ++ wsX40 ++ wsX20)
def wsX3_init : List Cond := .code yX3_init cX3_init 3 none :: ([.methodLink RX3 1 objectInit, .instanceMethod objectInit, .code objectInit ⟨#[0xb1]⟩ 1 none, .fieldLink RX3 7 "WordTables$Letters" "cut" "I", .arrayClass .int, .fieldLink RX3 13 "WordTables$Letters" "folds" "[I"] ++ wsX30)
def wsX3_changeFold : List Cond := .code yX3_changeFold cX3_changeFold 4 none :: ([.fieldLink RX3 13 "WordTables$Letters" "folds" "[I"] ++ wsX30)
def wsX4_isFull : List Cond := .code yX4_isFull cX4_isFull 1 (some .boolean) :: ([.fieldLink RX4 21 "WordTables$Row" "count" "I", .fieldLink RX4 15 "WordTables$Row" "bytes" "[I"] ++ wsX40)
def wsX5_init : List Cond := .code yX5_init cX5_init 1 none :: ([.methodLink RX5 1 objectInit, .instanceMethod objectInit, .code objectInit ⟨#[0xb1]⟩ 1 none])
def wsX5_clear : List Cond := .code yX5_clear cX5_clear 1 none :: ([.fieldLink RX5 7 "WordTables$Sum" "rest" "I", .fieldLink RX5 13 "WordTables$Sum" "part" "I", .fieldLink RX5 16 "WordTables$Sum" "length" "I"] ++ wsX50)
def wsX5_begin : List Cond := .code yX5_begin cX5_begin 2 none :: ([.fieldLink RX5 7 "WordTables$Sum" "rest" "I", .fieldLink RX5 13 "WordTables$Sum" "part" "I", .fieldLink RX5 16 "WordTables$Sum" "length" "I"] ++ wsX50)
def wsX5_fitsBelowHundred : List Cond := .code yX5_fitsBelowHundred cX5_fitsBelowHundred 3 (some .boolean) :: ([.fieldLink RX5 13 "WordTables$Sum" "part" "I", .fieldLink RX5 7 "WordTables$Sum" "rest" "I"] ++ wsX50)
def wsX5_fitsBelowTen : List Cond := .code yX5_fitsBelowTen cX5_fitsBelowTen 3 (some .boolean) :: ([.fieldLink RX5 13 "WordTables$Sum" "part" "I"] ++ wsX50)
def wsX5_accept : List Cond := .code yX5_accept cX5_accept 2 (some .boolean) :: ([.fieldLink RX5 16 "WordTables$Sum" "length" "I", .fieldLink RX5 13 "WordTables$Sum" "part" "I", .fieldLink RX5 7 "WordTables$Sum" "rest" "I", .methodLink RX5 19 yX5_begin, .instanceMethod yX5_begin, .selects RX5 yX5_begin yX5_begin, .initialized RX5, .code yX5_begin cX5_begin 2 none, .methodLink RX5 23 yX5_fitsBelowHundred, .instanceMethod yX5_fitsBelowHundred, .selects RX5 yX5_fitsBelowHundred yX5_fitsBelowHundred, .code yX5_fitsBelowHundred cX5_fitsBelowHundred 3 (some .boolean), .methodLink RX5 27 yX5_fitsBelowTen, .instanceMethod yX5_fitsBelowTen, .selects RX5 yX5_fitsBelowTen yX5_fitsBelowTen, .code yX5_fitsBelowTen cX5_fitsBelowTen 3 (some .boolean)] ++ wsX50)
def wsX6_init : List Cond := .code yX6_init cX6_init 1 none :: ([.methodLink RX6 3 objectInit, .instanceMethod objectInit, .code objectInit ⟨#[0xb1]⟩ 1 none, .arrayClass .int, .fieldLink RX6 9 "WordTables$Things" "meaningThings" "[I", .fieldLink RX6 15 "WordTables$Things" "meaningWords" "[I", .fieldLink RX6 18 "WordTables$Things" "meaningFlags" "[I"] ++ wsX60)
def wsX6_has : List Cond := .code yX6_has cX6_has 2 (some .boolean) :: ([.fieldLink RX6 21 "WordTables$Things" "count" "I"] ++ wsX60)
def wsX6_areAll : List Cond := .code yX6_areAll cX6_areAll 2 (some .boolean) :: ([.fieldLink RX6 21 "WordTables$Things" "count" "I"] ++ wsX60)
def wsX6_addThing : List Cond := .code yX6_addThing cX6_addThing 1 (some .boolean) :: ([.fieldLink RX6 21 "WordTables$Things" "count" "I"] ++ wsX60)
def wsX6_addMeaning : List Cond := .code yX6_addMeaning cX6_addMeaning 4 (some .boolean) :: ([.fieldLink RX6 25 "WordTables$Things" "meaningCount" "I", .fieldLink RX6 9 "WordTables$Things" "meaningThings" "[I", .fieldLink RX6 15 "WordTables$Things" "meaningWords" "[I", .fieldLink RX6 18 "WordTables$Things" "meaningFlags" "[I"] ++ wsX60)
def wsX6_isUp : List Cond := .code yX6_isUp cX6_isUp 2 (some .boolean) :: ([.fieldLink RX6 28 "WordTables$Things" "flagsUp" "I"] ++ wsX60)
def wsX6_setFlag : List Cond := .code yX6_setFlag cX6_setFlag 4 none :: ([.fieldLink RX6 28 "WordTables$Things" "flagsUp" "I"] ++ wsX60)
def wsX6_meantBy : List Cond := .code yX6_meantBy cX6_meantBy 5 (some .int) :: ([.fieldLink RX6 25 "WordTables$Things" "meaningCount" "I", .fieldLink RX6 18 "WordTables$Things" "meaningFlags" "[I", .fieldLink RX6 15 "WordTables$Things" "meaningWords" "[I", .fieldLink RX6 9 "WordTables$Things" "meaningThings" "[I", .methodLink RX6 31 yX6_isUp, .instanceMethod yX6_isUp, .selects RX6 yX6_isUp yX6_isUp, .initialized RX6, .code yX6_isUp cX6_isUp 2 (some .boolean), .fieldLink RX6 28 "WordTables$Things" "flagsUp" "I"] ++ wsX60)
def wsX7_init : List Cond := .code yX7_init cX7_init 1 none :: ([.methodLink RX7 3 objectInit, .instanceMethod objectInit, .code objectInit ⟨#[0xb1]⟩ 1 none, .classLink RX7 9 RX4, .instantiable RX4 2, .initialized RX4, .fieldLink RX7 14 "WordTables$Tokens" "text" "LWordTables$Row;", .arrayClass .int, .fieldLink RX7 20 "WordTables$Tokens" "sorts" "[I", .fieldLink RX7 24 "WordTables$Tokens" "places" "[I", .fieldLink RX7 27 "WordTables$Tokens" "lengths" "[I", .fieldLink RX7 30 "WordTables$Tokens" "numbers" "[I", .methodLink RX7 11 yX4_init, .instanceMethod yX4_init, .code yX4_init cX4_init 2 none, .methodLink RX4 3 objectInit, .methodLink RX4 9 Lib.Math.max.name, .static Lib.Math.max.name, .initialized "java/lang/Math", .code Lib.Math.max.name Lib.Math.max.code 2 (some .int), .fieldLink RX4 15 "WordTables$Row" "bytes" "[I"] ++ wsX40 ++ wsX70)
def wsX7_has : List Cond := .code yX7_has cX7_has 2 (some .boolean) :: ([.fieldLink RX7 33 "WordTables$Tokens" "count" "I"] ++ wsX70)
def wsX8_init : List Cond := .code yX8_init cX8_init 2 none :: ([.methodLink RX8 3 objectInit, .instanceMethod objectInit, .code objectInit ⟨#[0xb1]⟩ 1 none, .fieldLink RX8 9 "WordTables$Vocabulary" "letters" "LWordTables$Letters;", .classLink RX8 15 RX9, .fieldLink RX8 17 "WordTables$Vocabulary" "words" "[LWordTables$Word;", .classLink RX8 21 RX2, .fieldLink RX8 23 "WordTables$Vocabulary" "joins" "[LWordTables$Join;"] ++ wsX80)
def wsX9_init_r1 : List Cond := [Cond.methodLink RX9 3 objectInit, Cond.instanceMethod objectInit, Cond.code objectInit ⟨#[0xb1]⟩ 1 none, Cond.classLink RX9 9 RX4, Cond.instantiable RX4 2, Cond.initialized RX4, Cond.fieldLink RX9 11 "WordTables$Row" "count" "I", Cond.fieldLink RX9 18 "WordTables$Word" "spelling" "LWordTables$Row;", Cond.fieldLink RX9 28 "WordTables$Word" "language" "I", Cond.fieldLink RX9 31 "WordTables$Word" "pluralOf" "I", Cond.methodLink RX9 15 yX4_init, Cond.instanceMethod yX4_init, Cond.code yX4_init cX4_init 2 none, Cond.methodLink RX4 3 objectInit, Cond.methodLink RX4 9 Lib.Math.max.name, Cond.static Lib.Math.max.name, Cond.initialized "java/lang/Math", Cond.code Lib.Math.max.name Lib.Math.max.code 2 (some .int), Cond.arrayClass .int, Cond.fieldLink RX4 15 "WordTables$Row" "bytes" "[I", Cond.methodLink RX9 24 yX4_copyFrom, Cond.instanceMethod yX4_copyFrom, Cond.selects RX4 yX4_copyFrom yX4_copyFrom, Cond.code yX4_copyFrom cX4_copyFrom 3 none]
def wsX9_init_r2 : List Cond := [Cond.fieldLink RX4 21 "WordTables$Row" "count" "I", Cond.methodLink RX4 25 yX4_clear, Cond.instanceMethod yX4_clear, Cond.selects RX4 yX4_clear yX4_clear, Cond.code yX4_clear cX4_clear 1 none, Cond.methodLink RX4 28 yX4_byteAt, Cond.instanceMethod yX4_byteAt, Cond.selects RX4 yX4_byteAt yX4_byteAt, Cond.code yX4_byteAt cX4_byteAt 2 (some .int), Cond.methodLink RX4 32 yX4_put, Cond.instanceMethod yX4_put, Cond.selects RX4 yX4_put yX4_put, Cond.code yX4_put cX4_put 2 none]
def wsX9_init : List Cond := .code yX9_init cX9_init 3 none :: ((wsX9_init_r1 ++ wsX9_init_r2) ++ wsX40 ++ wsX90)
def wsX8_addWord_r1 : List Cond := [Cond.fieldLink RX8 27 "WordTables$Vocabulary" "wordCount" "I", Cond.fieldLink RX8 17 "WordTables$Vocabulary" "words" "[LWordTables$Word;", Cond.classLink RX8 15 RX9, Cond.instantiable RX9 6, Cond.initialized RX9, Cond.methodLink RX8 52 yX9_init, Cond.instanceMethod yX9_init, Cond.code yX9_init cX9_init 3 none, Cond.methodLink RX9 3 objectInit, Cond.instanceMethod objectInit, Cond.code objectInit ⟨#[0xb1]⟩ 1 none, Cond.classLink RX9 9 RX4, Cond.instantiable RX4 2, Cond.initialized RX4, Cond.fieldLink RX9 11 "WordTables$Row" "count" "I", Cond.fieldLink RX9 18 "WordTables$Word" "spelling" "LWordTables$Row;", Cond.fieldLink RX9 28 "WordTables$Word" "language" "I", Cond.fieldLink RX9 31 "WordTables$Word" "pluralOf" "I", Cond.methodLink RX9 15 yX4_init, Cond.instanceMethod yX4_init, Cond.code yX4_init cX4_init 2 none, Cond.methodLink RX4 3 objectInit, Cond.methodLink RX4 9 Lib.Math.max.name, Cond.static Lib.Math.max.name]
def wsX8_addWord_r2 : List Cond := [Cond.initialized "java/lang/Math", Cond.code Lib.Math.max.name Lib.Math.max.code 2 (some .int), Cond.arrayClass .int, Cond.fieldLink RX4 15 "WordTables$Row" "bytes" "[I", Cond.methodLink RX9 24 yX4_copyFrom, Cond.instanceMethod yX4_copyFrom, Cond.selects RX4 yX4_copyFrom yX4_copyFrom, Cond.code yX4_copyFrom cX4_copyFrom 3 none, Cond.fieldLink RX4 21 "WordTables$Row" "count" "I", Cond.methodLink RX4 25 yX4_clear, Cond.instanceMethod yX4_clear, Cond.selects RX4 yX4_clear yX4_clear, Cond.code yX4_clear cX4_clear 1 none, Cond.methodLink RX4 28 yX4_byteAt, Cond.instanceMethod yX4_byteAt, Cond.selects RX4 yX4_byteAt yX4_byteAt, Cond.code yX4_byteAt cX4_byteAt 2 (some .int), Cond.methodLink RX4 32 yX4_put, Cond.instanceMethod yX4_put, Cond.selects RX4 yX4_put yX4_put, Cond.code yX4_put cX4_put 2 none]
def wsX8_addWord : List Cond := .code yX8_addWord cX8_addWord 3 (some .int) :: ((wsX8_addWord_r1 ++ wsX8_addWord_r2) ++ wsX80 ++ wsX90 ++ wsX40)
def wsX8_addJoin_r1 : List Cond := [Cond.fieldLink RX8 48 "WordTables$Vocabulary" "joinCount" "I", Cond.fieldLink RX8 23 "WordTables$Vocabulary" "joins" "[LWordTables$Join;", Cond.classLink RX8 21 RX2, Cond.instantiable RX2 3, Cond.initialized RX2, Cond.methodLink RX8 55 yX2_init, Cond.instanceMethod yX2_init, Cond.code yX2_init cX2_init 4 none, Cond.methodLink RX2 1 objectInit, Cond.instanceMethod objectInit, Cond.code objectInit ⟨#[0xb1]⟩ 1 none, Cond.classLink RX2 7 RX4, Cond.instantiable RX4 2, Cond.initialized RX4, Cond.fieldLink RX2 9 "WordTables$Row" "count" "I", Cond.fieldLink RX2 16 "WordTables$Join" "spelling" "LWordTables$Row;", Cond.fieldLink RX2 26 "WordTables$Join" "first" "I", Cond.fieldLink RX2 29 "WordTables$Join" "second" "I", Cond.methodLink RX2 13 yX4_init, Cond.instanceMethod yX4_init, Cond.code yX4_init cX4_init 2 none, Cond.methodLink RX4 3 objectInit, Cond.methodLink RX4 9 Lib.Math.max.name, Cond.static Lib.Math.max.name]
def wsX8_addJoin_r2 : List Cond := [Cond.initialized "java/lang/Math", Cond.code Lib.Math.max.name Lib.Math.max.code 2 (some .int), Cond.arrayClass .int, Cond.fieldLink RX4 15 "WordTables$Row" "bytes" "[I", Cond.methodLink RX2 22 yX4_copyFrom, Cond.instanceMethod yX4_copyFrom, Cond.selects RX4 yX4_copyFrom yX4_copyFrom, Cond.code yX4_copyFrom cX4_copyFrom 3 none, Cond.fieldLink RX4 21 "WordTables$Row" "count" "I", Cond.methodLink RX4 25 yX4_clear, Cond.instanceMethod yX4_clear, Cond.selects RX4 yX4_clear yX4_clear, Cond.code yX4_clear cX4_clear 1 none, Cond.methodLink RX4 28 yX4_byteAt, Cond.instanceMethod yX4_byteAt, Cond.selects RX4 yX4_byteAt yX4_byteAt, Cond.code yX4_byteAt cX4_byteAt 2 (some .int), Cond.methodLink RX4 32 yX4_put, Cond.instanceMethod yX4_put, Cond.selects RX4 yX4_put yX4_put, Cond.code yX4_put cX4_put 2 none]
def wsX8_addJoin : List Cond := .code yX8_addJoin cX8_addJoin 4 (some .boolean) :: ((wsX8_addJoin_r1 ++ wsX8_addJoin_r2) ++ wsX80 ++ wsX20 ++ wsX40)
def wsX9_isOneOf : List Cond := .code yX9_isOneOf cX9_isOneOf 2 (some .boolean) :: ([.fieldLink RX9 34 "WordTables$Word" "kinds" "I"] ++ wsX90)
def wsX10_init_r1 : List Cond := [Cond.methodLink RX10 3 objectInit, Cond.instanceMethod objectInit, Cond.code objectInit ⟨#[0xb1]⟩ 1 none, Cond.classLink RX10 9 RX3, Cond.instantiable RX3 2, Cond.initialized RX3, Cond.methodLink RX10 11 Lib.Math.min.name, Cond.static Lib.Math.min.name, Cond.initialized "java/lang/Math", Cond.code Lib.Math.min.name Lib.Math.min.code 2 (some .int), Cond.methodLink RX10 17 Lib.Math.max.name, Cond.static Lib.Math.max.name, Cond.code Lib.Math.max.name Lib.Math.max.code 2 (some .int), Cond.fieldLink RX10 23 "WordTables" "letters" "LWordTables$Letters;", Cond.classLink RX10 27 RX4, Cond.instantiable RX4 2, Cond.initialized RX4, Cond.fieldLink RX10 30 "WordTables" "draft" "LWordTables$Row;", Cond.classLink RX10 34 RX8, Cond.instantiable RX8 5, Cond.initialized RX8, Cond.fieldLink RX10 39 "WordTables" "vocabulary" "LWordTables$Vocabulary;", Cond.fieldLink RX10 43 "WordTables" "line" "LWordTables$Row;", Cond.classLink RX10 46 RX1]
def wsX10_init_r2 : List Cond := [Cond.instantiable RX1 5, Cond.initialized RX1, Cond.fieldLink RX10 51 "WordTables" "cutter" "LWordTables$Cutter;", Cond.classLink RX10 55 RX6, Cond.instantiable RX6 6, Cond.initialized RX6, Cond.fieldLink RX10 58 "WordTables" "things" "LWordTables$Things;", Cond.classLink RX10 62 RX5, Cond.instantiable RX5 3, Cond.initialized RX5, Cond.fieldLink RX10 65 "WordTables" "sum" "LWordTables$Sum;", Cond.classLink RX10 69 RX0, Cond.instantiable RX0 2, Cond.initialized RX0, Cond.fieldLink RX10 72 "WordTables" "common" "LWordTables$Common;", Cond.classLink RX10 76 RX7, Cond.instantiable RX7 7, Cond.initialized RX7, Cond.fieldLink RX10 79 "WordTables" "tokens" "LWordTables$Tokens;", Cond.fieldLink RX10 83 "WordTables" "spare" "LWordTables$Tokens;", Cond.methodLink RX10 20 yX3_init, Cond.instanceMethod yX3_init, Cond.code yX3_init cX3_init 3 none, Cond.methodLink RX3 1 objectInit]
def wsX10_init_r3 : List Cond := [Cond.fieldLink RX3 7 "WordTables$Letters" "cut" "I", Cond.arrayClass .int, Cond.fieldLink RX3 13 "WordTables$Letters" "folds" "[I", Cond.methodLink RX10 29 yX4_init, Cond.instanceMethod yX4_init, Cond.code yX4_init cX4_init 2 none, Cond.methodLink RX4 3 objectInit, Cond.methodLink RX4 9 Lib.Math.max.name, Cond.fieldLink RX4 15 "WordTables$Row" "bytes" "[I", Cond.methodLink RX10 36 yX8_init, Cond.instanceMethod yX8_init, Cond.code yX8_init cX8_init 2 none, Cond.methodLink RX8 3 objectInit, Cond.fieldLink RX8 9 "WordTables$Vocabulary" "letters" "LWordTables$Letters;", Cond.classLink RX8 15 RX9, Cond.fieldLink RX8 17 "WordTables$Vocabulary" "words" "[LWordTables$Word;", Cond.classLink RX8 21 RX2, Cond.fieldLink RX8 23 "WordTables$Vocabulary" "joins" "[LWordTables$Join;", Cond.methodLink RX10 48 yX1_init, Cond.instanceMethod yX1_init, Cond.code yX1_init cX1_init 4 none, Cond.methodLink RX1 3 objectInit, Cond.fieldLink RX1 9 "WordTables$Cutter" "letters" "LWordTables$Letters;", Cond.fieldLink RX1 15 "WordTables$Cutter" "vocabulary" "LWordTables$Vocabulary;"]
def wsX10_init_r4 : List Cond := [Cond.fieldLink RX1 19 "WordTables$Cutter" "line" "LWordTables$Row;", Cond.methodLink RX10 57 yX6_init, Cond.instanceMethod yX6_init, Cond.code yX6_init cX6_init 1 none, Cond.methodLink RX6 3 objectInit, Cond.fieldLink RX6 9 "WordTables$Things" "meaningThings" "[I", Cond.fieldLink RX6 15 "WordTables$Things" "meaningWords" "[I", Cond.fieldLink RX6 18 "WordTables$Things" "meaningFlags" "[I", Cond.instanceMethod yX5_init, Cond.code yX5_init cX5_init 1 none, Cond.methodLink RX5 1 objectInit, Cond.instanceMethod yX0_init, Cond.code yX0_init cX0_init 1 none, Cond.methodLink RX0 1 objectInit, Cond.methodLink RX10 78 yX7_init, Cond.instanceMethod yX7_init, Cond.code yX7_init cX7_init 1 none, Cond.methodLink RX7 3 objectInit, Cond.classLink RX7 9 RX4, Cond.fieldLink RX7 14 "WordTables$Tokens" "text" "LWordTables$Row;", Cond.fieldLink RX7 20 "WordTables$Tokens" "sorts" "[I", Cond.fieldLink RX7 24 "WordTables$Tokens" "places" "[I", Cond.fieldLink RX7 27 "WordTables$Tokens" "lengths" "[I", Cond.fieldLink RX7 30 "WordTables$Tokens" "numbers" "[I"]
def wsX10_init_r5 : List Cond := [Cond.methodLink RX7 11 yX4_init]
def wsX10_init : List Cond := .code yX10_init cX10_init 2 none :: ((wsX10_init_r1 ++ (wsX10_init_r2 ++ (wsX10_init_r3 ++ (wsX10_init_r4 ++ wsX10_init_r5)))) ++ wsX30 ++ wsX100 ++ wsX40 ++ wsX80 ++ wsX10 ++ wsX60 ++ wsX50 ++ wsX00 ++ wsX70)
def wsX10_fold : List Cond := .code yX10_fold cX10_fold 4 (some .int) :: ([.fieldLink RX10 39 "WordTables" "vocabulary" "LWordTables$Vocabulary;", .fieldLink RX10 93 "WordTables$Vocabulary" "wordCount" "I", .fieldLink RX10 97 "WordTables$Vocabulary" "joinCount" "I", .fieldLink RX10 23 "WordTables" "letters" "LWordTables$Letters;", .methodLink RX10 86 yX3_isFoldable, .static yX3_isFoldable, .initialized RX3, .code yX3_isFoldable cX3_isFoldable 1 (some .boolean), .methodLink RX10 90 yX3_isSmall, .static yX3_isSmall, .code yX3_isSmall cX3_isSmall 1 (some .boolean), .methodLink RX10 100 yX3_folded, .instanceMethod yX3_folded, .selects RX3 yX3_folded yX3_folded, .code yX3_folded cX3_folded 3 (some .int), .fieldLink RX3 13 "WordTables$Letters" "folds" "[I", .methodLink RX10 104 yX3_changeFold, .instanceMethod yX3_changeFold, .selects RX3 yX3_changeFold yX3_changeFold, .code yX3_changeFold cX3_changeFold 4 none] ++ wsX100 ++ wsX80 ++ wsX30)
def wsX10_letter : List Cond := .code yX10_letter cX10_letter 2 (some .int) :: ([.fieldLink RX10 30 "WordTables" "draft" "LWordTables$Row;", .fieldLink RX10 118 "WordTables$Row" "count" "I", .methodLink RX10 108 yX3_isLetter, .static yX3_isLetter, .initialized RX3, .code yX3_isLetter cX3_isLetter 1 (some .boolean), .methodLink RX3 17 yX3_isSmall, .static yX3_isSmall, .code yX3_isSmall cX3_isSmall 1 (some .boolean), .methodLink RX3 21 yX3_isFoldable, .static yX3_isFoldable, .code yX3_isFoldable cX3_isFoldable 1 (some .boolean), .methodLink RX10 111 yX4_isFull, .instanceMethod yX4_isFull, .selects RX4 yX4_isFull yX4_isFull, .initialized RX4, .code yX4_isFull cX4_isFull 1 (some .boolean), .fieldLink RX4 21 "WordTables$Row" "count" "I", .fieldLink RX4 15 "WordTables$Row" "bytes" "[I", .methodLink RX10 115 yX4_put, .instanceMethod yX4_put, .selects RX4 yX4_put yX4_put, .code yX4_put cX4_put 2 none] ++ wsX100 ++ wsX40)
def wsX10_isLanguage : List Cond := .code yX10_isLanguage cX10_isLanguage 1 (some .boolean) :: ([])
def wsX10_word_r1 : List Cond := [Cond.fieldLink RX10 30 "WordTables" "draft" "LWordTables$Row;", Cond.fieldLink RX10 118 "WordTables$Row" "count" "I", Cond.fieldLink RX10 39 "WordTables" "vocabulary" "LWordTables$Vocabulary;", Cond.fieldLink RX10 136 "WordTables$Word" "kinds" "I", Cond.methodLink RX10 121 yX10_isLanguage, Cond.static yX10_isLanguage, Cond.initialized RX10, Cond.code yX10_isLanguage cX10_isLanguage 1 (some .boolean), Cond.methodLink RX10 124 yX8_likeIn, Cond.instanceMethod yX8_likeIn, Cond.selects RX8 yX8_likeIn yX8_likeIn, Cond.initialized RX8, Cond.code yX8_likeIn cX8_likeIn 7 (some .int), Cond.fieldLink RX8 27 "WordTables$Vocabulary" "wordCount" "I", Cond.fieldLink RX8 35 "WordTables$Word" "language" "I", Cond.fieldLink RX8 9 "WordTables$Vocabulary" "letters" "LWordTables$Letters;", Cond.fieldLink RX8 38 "WordTables$Word" "spelling" "LWordTables$Row;", Cond.methodLink RX8 31 yX8_known, Cond.instanceMethod yX8_known, Cond.selects RX8 yX8_known yX8_known, Cond.code yX8_known cX8_known 2 (some (.object "WordTables$Word")), Cond.fieldLink RX8 17 "WordTables$Vocabulary" "words" "[LWordTables$Word;", Cond.methodLink RX8 42 yX3_areLike, Cond.instanceMethod yX3_areLike]
def wsX10_word_r2 : List Cond := [Cond.selects RX3 yX3_areLike yX3_areLike, Cond.initialized RX3, Cond.code yX3_areLike cX3_areLike 7 (some .boolean), Cond.fieldLink RX3 24 "WordTables$Row" "count" "I", Cond.fieldLink RX3 7 "WordTables$Letters" "cut" "I", Cond.methodLink RX3 29 Lib.Math.min.name, Cond.static Lib.Math.min.name, Cond.initialized "java/lang/Math", Cond.code Lib.Math.min.name Lib.Math.min.code 2 (some .int), Cond.methodLink RX3 35 yX4_byteAt, Cond.instanceMethod yX4_byteAt, Cond.selects RX4 yX4_byteAt yX4_byteAt, Cond.initialized RX4, Cond.code yX4_byteAt cX4_byteAt 2 (some .int), Cond.fieldLink RX4 21 "WordTables$Row" "count" "I", Cond.fieldLink RX4 15 "WordTables$Row" "bytes" "[I", Cond.methodLink RX3 39 yX3_folded, Cond.instanceMethod yX3_folded, Cond.selects RX3 yX3_folded yX3_folded, Cond.code yX3_folded cX3_folded 3 (some .int), Cond.fieldLink RX3 13 "WordTables$Letters" "folds" "[I", Cond.methodLink RX10 128 yX8_addWord, Cond.instanceMethod yX8_addWord, Cond.selects RX8 yX8_addWord yX8_addWord]
def wsX10_word_r3 : List Cond := [Cond.code yX8_addWord cX8_addWord 3 (some .int), Cond.classLink RX8 15 RX9, Cond.instantiable RX9 6, Cond.initialized RX9, Cond.methodLink RX8 52 yX9_init, Cond.instanceMethod yX9_init, Cond.code yX9_init cX9_init 3 none, Cond.methodLink RX9 3 objectInit, Cond.instanceMethod objectInit, Cond.code objectInit ⟨#[0xb1]⟩ 1 none, Cond.classLink RX9 9 RX4, Cond.instantiable RX4 2, Cond.fieldLink RX9 11 "WordTables$Row" "count" "I", Cond.fieldLink RX9 18 "WordTables$Word" "spelling" "LWordTables$Row;", Cond.fieldLink RX9 28 "WordTables$Word" "language" "I", Cond.fieldLink RX9 31 "WordTables$Word" "pluralOf" "I", Cond.methodLink RX9 15 yX4_init, Cond.instanceMethod yX4_init, Cond.code yX4_init cX4_init 2 none, Cond.methodLink RX4 3 objectInit, Cond.methodLink RX4 9 Lib.Math.max.name, Cond.static Lib.Math.max.name, Cond.code Lib.Math.max.name Lib.Math.max.code 2 (some .int), Cond.arrayClass .int]
def wsX10_word_r4 : List Cond := [Cond.methodLink RX9 24 yX4_copyFrom, Cond.instanceMethod yX4_copyFrom, Cond.selects RX4 yX4_copyFrom yX4_copyFrom, Cond.code yX4_copyFrom cX4_copyFrom 3 none, Cond.methodLink RX4 25 yX4_clear, Cond.instanceMethod yX4_clear, Cond.selects RX4 yX4_clear yX4_clear, Cond.code yX4_clear cX4_clear 1 none, Cond.methodLink RX4 28 yX4_byteAt, Cond.methodLink RX4 32 yX4_put, Cond.instanceMethod yX4_put, Cond.selects RX4 yX4_put yX4_put, Cond.code yX4_put cX4_put 2 none, Cond.methodLink RX10 132 yX8_known, Cond.methodLink RX10 141 yX4_clear]
def wsX10_word : List Cond := .code yX10_word cX10_word 5 (some .int) :: ((wsX10_word_r1 ++ (wsX10_word_r2 ++ (wsX10_word_r3 ++ wsX10_word_r4))) ++ wsX100 ++ wsX40 ++ wsX90 ++ wsX80 ++ wsX30)
def wsX10_value : List Cond := .code yX10_value cX10_value 5 (some .int) :: ([.fieldLink RX10 39 "WordTables" "vocabulary" "LWordTables$Vocabulary;", .fieldLink RX10 147 "WordTables$Word" "worth" "I", .methodLink RX10 132 yX8_known, .instanceMethod yX8_known, .selects RX8 yX8_known yX8_known, .initialized RX8, .code yX8_known cX8_known 2 (some (.object "WordTables$Word")), .fieldLink RX8 27 "WordTables$Vocabulary" "wordCount" "I", .fieldLink RX8 17 "WordTables$Vocabulary" "words" "[LWordTables$Word;", .methodLink RX10 144 yX9_isOneOf, .instanceMethod yX9_isOneOf, .selects RX9 yX9_isOneOf yX9_isOneOf, .initialized RX9, .code yX9_isOneOf cX9_isOneOf 2 (some .boolean), .fieldLink RX9 34 "WordTables$Word" "kinds" "I"] ++ wsX100 ++ wsX90 ++ wsX80)
def wsX10_plural : List Cond := .code yX10_plural cX10_plural 5 (some .int) :: ([.fieldLink RX10 39 "WordTables" "vocabulary" "LWordTables$Vocabulary;", .fieldLink RX10 150 "WordTables$Word" "pluralOf" "I", .methodLink RX10 132 yX8_known, .instanceMethod yX8_known, .selects RX8 yX8_known yX8_known, .initialized RX8, .code yX8_known cX8_known 2 (some (.object "WordTables$Word")), .fieldLink RX8 27 "WordTables$Vocabulary" "wordCount" "I", .fieldLink RX8 17 "WordTables$Vocabulary" "words" "[LWordTables$Word;"] ++ wsX100 ++ wsX90 ++ wsX80)
def wsX10_join_r1 : List Cond := [Cond.fieldLink RX10 39 "WordTables" "vocabulary" "LWordTables$Vocabulary;", Cond.fieldLink RX10 30 "WordTables" "draft" "LWordTables$Row;", Cond.fieldLink RX10 118 "WordTables$Row" "count" "I", Cond.fieldLink RX10 97 "WordTables$Vocabulary" "joinCount" "I", Cond.methodLink RX10 132 yX8_known, Cond.instanceMethod yX8_known, Cond.selects RX8 yX8_known yX8_known, Cond.initialized RX8, Cond.code yX8_known cX8_known 2 (some (.object "WordTables$Word")), Cond.fieldLink RX8 27 "WordTables$Vocabulary" "wordCount" "I", Cond.fieldLink RX8 17 "WordTables$Vocabulary" "words" "[LWordTables$Word;", Cond.methodLink RX10 153 yX8_addJoin, Cond.instanceMethod yX8_addJoin, Cond.selects RX8 yX8_addJoin yX8_addJoin, Cond.code yX8_addJoin cX8_addJoin 4 (some .boolean), Cond.fieldLink RX8 48 "WordTables$Vocabulary" "joinCount" "I", Cond.fieldLink RX8 23 "WordTables$Vocabulary" "joins" "[LWordTables$Join;", Cond.classLink RX8 21 RX2, Cond.instantiable RX2 3, Cond.initialized RX2, Cond.methodLink RX8 55 yX2_init, Cond.instanceMethod yX2_init, Cond.code yX2_init cX2_init 4 none, Cond.methodLink RX2 1 objectInit]
def wsX10_join_r2 : List Cond := [Cond.instanceMethod objectInit, Cond.code objectInit ⟨#[0xb1]⟩ 1 none, Cond.classLink RX2 7 RX4, Cond.instantiable RX4 2, Cond.initialized RX4, Cond.fieldLink RX2 9 "WordTables$Row" "count" "I", Cond.fieldLink RX2 16 "WordTables$Join" "spelling" "LWordTables$Row;", Cond.fieldLink RX2 26 "WordTables$Join" "first" "I", Cond.fieldLink RX2 29 "WordTables$Join" "second" "I", Cond.methodLink RX2 13 yX4_init, Cond.instanceMethod yX4_init, Cond.code yX4_init cX4_init 2 none, Cond.methodLink RX4 3 objectInit, Cond.methodLink RX4 9 Lib.Math.max.name, Cond.static Lib.Math.max.name, Cond.initialized "java/lang/Math", Cond.code Lib.Math.max.name Lib.Math.max.code 2 (some .int), Cond.arrayClass .int, Cond.fieldLink RX4 15 "WordTables$Row" "bytes" "[I", Cond.methodLink RX2 22 yX4_copyFrom, Cond.instanceMethod yX4_copyFrom, Cond.selects RX4 yX4_copyFrom yX4_copyFrom, Cond.code yX4_copyFrom cX4_copyFrom 3 none, Cond.fieldLink RX4 21 "WordTables$Row" "count" "I"]
def wsX10_join_r3 : List Cond := [Cond.methodLink RX4 25 yX4_clear, Cond.instanceMethod yX4_clear, Cond.selects RX4 yX4_clear yX4_clear, Cond.code yX4_clear cX4_clear 1 none, Cond.methodLink RX4 28 yX4_byteAt, Cond.instanceMethod yX4_byteAt, Cond.selects RX4 yX4_byteAt yX4_byteAt, Cond.code yX4_byteAt cX4_byteAt 2 (some .int), Cond.methodLink RX4 32 yX4_put, Cond.instanceMethod yX4_put, Cond.selects RX4 yX4_put yX4_put, Cond.code yX4_put cX4_put 2 none, Cond.methodLink RX10 141 yX4_clear]
def wsX10_join : List Cond := .code yX10_join cX10_join 3 (some .int) :: ((wsX10_join_r1 ++ (wsX10_join_r2 ++ wsX10_join_r3)) ++ wsX100 ++ wsX40 ++ wsX80 ++ wsX20)
def wsX10_type : List Cond := .code yX10_type cX10_type 2 (some .int) :: ([.fieldLink RX10 43 "WordTables" "line" "LWordTables$Row;", .fieldLink RX10 118 "WordTables$Row" "count" "I", .methodLink RX10 111 yX4_isFull, .instanceMethod yX4_isFull, .selects RX4 yX4_isFull yX4_isFull, .initialized RX4, .code yX4_isFull cX4_isFull 1 (some .boolean), .fieldLink RX4 21 "WordTables$Row" "count" "I", .fieldLink RX4 15 "WordTables$Row" "bytes" "[I", .methodLink RX10 115 yX4_put, .instanceMethod yX4_put, .selects RX4 yX4_put yX4_put, .code yX4_put cX4_put 2 none] ++ wsX100 ++ wsX40)
def wsX10_takeSpareTokens : List Cond := .code yX10_takeSpareTokens cX10_takeSpareTokens 2 (some .int) :: ([.fieldLink RX10 79 "WordTables" "tokens" "LWordTables$Tokens;", .fieldLink RX10 83 "WordTables" "spare" "LWordTables$Tokens;", .fieldLink RX10 254 "WordTables$Tokens" "count" "I"] ++ wsX100 ++ wsX70)
def wsX10_read_r1 : List Cond := [Cond.fieldLink RX10 51 "WordTables" "cutter" "LWordTables$Cutter;", Cond.fieldLink RX10 83 "WordTables" "spare" "LWordTables$Tokens;", Cond.fieldLink RX10 43 "WordTables" "line" "LWordTables$Row;", Cond.methodLink RX10 121 yX10_isLanguage, Cond.static yX10_isLanguage, Cond.initialized RX10, Cond.code yX10_isLanguage cX10_isLanguage 1 (some .boolean), Cond.methodLink RX10 157 yX1_cutLine, Cond.instanceMethod yX1_cutLine, Cond.selects RX1 yX1_cutLine yX1_cutLine, Cond.initialized RX1, Cond.code yX1_cutLine cX1_cutLine 5 (some .boolean), Cond.fieldLink RX1 23 "WordTables$Cutter" "language" "I", Cond.fieldLink RX1 27 "WordTables$Cutter" "into" "LWordTables$Tokens;", Cond.fieldLink RX1 19 "WordTables$Cutter" "line" "LWordTables$Row;", Cond.fieldLink RX1 37 "WordTables$Row" "count" "I", Cond.fieldLink RX1 46 "WordTables$Tokens" "tooMany" "Z", Cond.methodLink RX1 31 yX7_startOn, Cond.instanceMethod yX7_startOn, Cond.selects RX7 yX7_startOn yX7_startOn, Cond.initialized RX7, Cond.code yX7_startOn cX7_startOn 2 none, Cond.fieldLink RX7 14 "WordTables$Tokens" "text" "LWordTables$Row;", Cond.fieldLink RX7 33 "WordTables$Tokens" "count" "I"]
def wsX10_read_r2 : List Cond := [Cond.fieldLink RX7 41 "WordTables$Tokens" "tooMany" "Z", Cond.methodLink RX7 37 yX4_copyFrom, Cond.instanceMethod yX4_copyFrom, Cond.selects RX4 yX4_copyFrom yX4_copyFrom, Cond.initialized RX4, Cond.code yX4_copyFrom cX4_copyFrom 3 none, Cond.fieldLink RX4 21 "WordTables$Row" "count" "I", Cond.methodLink RX4 25 yX4_clear, Cond.instanceMethod yX4_clear, Cond.selects RX4 yX4_clear yX4_clear, Cond.code yX4_clear cX4_clear 1 none, Cond.methodLink RX4 28 yX4_byteAt, Cond.instanceMethod yX4_byteAt, Cond.selects RX4 yX4_byteAt yX4_byteAt, Cond.code yX4_byteAt cX4_byteAt 2 (some .int), Cond.fieldLink RX4 15 "WordTables$Row" "bytes" "[I", Cond.methodLink RX4 32 yX4_put, Cond.instanceMethod yX4_put, Cond.selects RX4 yX4_put yX4_put, Cond.code yX4_put cX4_put 2 none, Cond.methodLink RX1 42 yX1_cutAt, Cond.instanceMethod yX1_cutAt, Cond.selects RX1 yX1_cutAt yX1_cutAt, Cond.code yX1_cutAt cX1_cutAt 3 (some .int)]
def wsX10_read_r3 : List Cond := [Cond.methodLink RX1 50 yX4_byteAt, Cond.methodLink RX1 53 yX3_isLetter, Cond.static yX3_isLetter, Cond.initialized RX3, Cond.code yX3_isLetter cX3_isLetter 1 (some .boolean), Cond.methodLink RX3 17 yX3_isSmall, Cond.static yX3_isSmall, Cond.code yX3_isSmall cX3_isSmall 1 (some .boolean), Cond.methodLink RX3 21 yX3_isFoldable, Cond.static yX3_isFoldable, Cond.code yX3_isFoldable cX3_isFoldable 1 (some .boolean), Cond.methodLink RX1 59 yX1_cutLetters, Cond.instanceMethod yX1_cutLetters, Cond.selects RX1 yX1_cutLetters yX1_cutLetters, Cond.code yX1_cutLetters cX1_cutLetters 5 (some .int), Cond.fieldLink RX1 15 "WordTables$Cutter" "vocabulary" "LWordTables$Vocabulary;", Cond.fieldLink RX1 95 "WordTables$Join" "first" "I", Cond.fieldLink RX1 100 "WordTables$Join" "second" "I", Cond.methodLink RX1 85 yX8_likeIn, Cond.instanceMethod yX8_likeIn, Cond.selects RX8 yX8_likeIn yX8_likeIn, Cond.initialized RX8, Cond.code yX8_likeIn cX8_likeIn 7 (some .int), Cond.fieldLink RX8 27 "WordTables$Vocabulary" "wordCount" "I"]
def wsX10_read_r4 : List Cond := [Cond.fieldLink RX8 35 "WordTables$Word" "language" "I", Cond.fieldLink RX8 9 "WordTables$Vocabulary" "letters" "LWordTables$Letters;", Cond.fieldLink RX8 38 "WordTables$Word" "spelling" "LWordTables$Row;", Cond.methodLink RX8 31 yX8_known, Cond.instanceMethod yX8_known, Cond.selects RX8 yX8_known yX8_known, Cond.code yX8_known cX8_known 2 (some (.object "WordTables$Word")), Cond.fieldLink RX8 17 "WordTables$Vocabulary" "words" "[LWordTables$Word;", Cond.methodLink RX8 42 yX3_areLike, Cond.instanceMethod yX3_areLike, Cond.selects RX3 yX3_areLike yX3_areLike, Cond.code yX3_areLike cX3_areLike 7 (some .boolean), Cond.fieldLink RX3 24 "WordTables$Row" "count" "I", Cond.fieldLink RX3 7 "WordTables$Letters" "cut" "I", Cond.methodLink RX3 29 Lib.Math.min.name, Cond.static Lib.Math.min.name, Cond.initialized "java/lang/Math", Cond.code Lib.Math.min.name Lib.Math.min.code 2 (some .int), Cond.methodLink RX3 35 yX4_byteAt, Cond.methodLink RX3 39 yX3_folded, Cond.instanceMethod yX3_folded, Cond.selects RX3 yX3_folded yX3_folded, Cond.code yX3_folded cX3_folded 3 (some .int), Cond.fieldLink RX3 13 "WordTables$Letters" "folds" "[I"]
def wsX10_read_r5 : List Cond := [Cond.methodLink RX1 74 yX1_addUpTo, Cond.instanceMethod yX1_addUpTo, Cond.selects RX1 yX1_addUpTo yX1_addUpTo, Cond.code yX1_addUpTo cX1_addUpTo 5 (some .int), Cond.methodLink RX1 81 yX7_add, Cond.instanceMethod yX7_add, Cond.selects RX7 yX7_add yX7_add, Cond.code yX7_add cX7_add 5 none, Cond.fieldLink RX7 20 "WordTables$Tokens" "sorts" "[I", Cond.fieldLink RX7 24 "WordTables$Tokens" "places" "[I", Cond.fieldLink RX7 27 "WordTables$Tokens" "lengths" "[I", Cond.fieldLink RX7 30 "WordTables$Tokens" "numbers" "[I", Cond.methodLink RX1 91 yX8_joinLike, Cond.instanceMethod yX8_joinLike, Cond.selects RX8 yX8_joinLike yX8_joinLike, Cond.code yX8_joinLike cX8_joinLike 6 (some (.object "WordTables$Join")), Cond.fieldLink RX8 48 "WordTables$Vocabulary" "joinCount" "I", Cond.fieldLink RX8 23 "WordTables$Vocabulary" "joins" "[LWordTables$Join;", Cond.fieldLink RX8 51 "WordTables$Join" "spelling" "LWordTables$Row;", Cond.methodLink RX1 62 yX1_isDigit, Cond.static yX1_isDigit, Cond.code yX1_isDigit cX1_isDigit 1 (some .boolean), Cond.methodLink RX1 65 yX1_cutDigits, Cond.instanceMethod yX1_cutDigits]
def wsX10_read_r6 : List Cond := [Cond.selects RX1 yX1_cutDigits yX1_cutDigits, Cond.code yX1_cutDigits cX1_cutDigits 4 (some .int), Cond.methodLink RX1 103 yX1_endOfDigits, Cond.instanceMethod yX1_endOfDigits, Cond.selects RX1 yX1_endOfDigits yX1_endOfDigits, Cond.code yX1_endOfDigits cX1_endOfDigits 3 (some .int), Cond.methodLink RX1 106 yX1_isTime, Cond.instanceMethod yX1_isTime, Cond.selects RX1 yX1_isTime yX1_isTime, Cond.code yX1_isTime cX1_isTime 3 (some .boolean), Cond.methodLink RX1 114 yX1_numberOf, Cond.instanceMethod yX1_numberOf, Cond.selects RX1 yX1_numberOf yX1_numberOf, Cond.code yX1_numberOf cX1_numberOf 5 (some .int), Cond.methodLink RX1 126 Lib.Math.min.name, Cond.methodLink RX1 110 yX1_cutTime, Cond.instanceMethod yX1_cutTime, Cond.selects RX1 yX1_cutTime yX1_cutTime, Cond.code yX1_cutTime cX1_cutTime 6 (some .int), Cond.fieldLink RX1 9 "WordTables$Cutter" "letters" "LWordTables$Letters;", Cond.methodLink RX1 117 yX1_isHalfOfDay, Cond.instanceMethod yX1_isHalfOfDay, Cond.selects RX1 yX1_isHalfOfDay yX1_isHalfOfDay, Cond.code yX1_isHalfOfDay cX1_isHalfOfDay 3 (some .boolean)]
def wsX10_read_r7 : List Cond := [Cond.methodLink RX1 120 yX3_folded, Cond.methodLink RX1 68 yX1_cutQuoted, Cond.instanceMethod yX1_cutQuoted, Cond.selects RX1 yX1_cutQuoted yX1_cutQuoted, Cond.code yX1_cutQuoted cX1_cutQuoted 3 (some .int), Cond.methodLink RX1 71 yX1_isMark, Cond.static yX1_isMark, Cond.code yX1_isMark cX1_isMark 1 (some .boolean), Cond.methodLink RX1 78 yX1_cutOther, Cond.instanceMethod yX1_cutOther, Cond.selects RX1 yX1_cutOther yX1_cutOther, Cond.code yX1_cutOther cX1_cutOther 3 (some .int), Cond.methodLink RX1 123 yX1_isOther, Cond.static yX1_isOther, Cond.code yX1_isOther cX1_isOther 1 (some .boolean), Cond.methodLink RX10 161 yX10_takeSpareTokens, Cond.instanceMethod yX10_takeSpareTokens, Cond.selects RX10 yX10_takeSpareTokens yX10_takeSpareTokens, Cond.code yX10_takeSpareTokens cX10_takeSpareTokens 2 (some .int), Cond.fieldLink RX10 79 "WordTables" "tokens" "LWordTables$Tokens;", Cond.fieldLink RX10 254 "WordTables$Tokens" "count" "I", Cond.methodLink RX10 141 yX4_clear]
def wsX10_read : List Cond := .code yX10_read cX10_read 3 (some .int) :: ((wsX10_read_r1 ++ (wsX10_read_r2 ++ (wsX10_read_r3 ++ (wsX10_read_r4 ++ (wsX10_read_r5 ++ (wsX10_read_r6 ++ wsX10_read_r7)))))) ++ wsX100 ++ wsX10 ++ wsX40 ++ wsX70 ++ wsX20 ++ wsX80 ++ wsX90 ++ wsX30)
def wsX10_wordOf : List Cond := .code yX10_wordOf cX10_wordOf 2 (some (.object "WordTables$Word")) :: ([.fieldLink RX10 79 "WordTables" "tokens" "LWordTables$Tokens;", .fieldLink RX10 168 "WordTables$Tokens" "sorts" "[I", .fieldLink RX10 39 "WordTables" "vocabulary" "LWordTables$Vocabulary;", .fieldLink RX10 178 "WordTables$Tokens" "numbers" "[I", .methodLink RX10 165 yX7_has, .instanceMethod yX7_has, .selects RX7 yX7_has yX7_has, .initialized RX7, .code yX7_has cX7_has 2 (some .boolean), .fieldLink RX7 33 "WordTables$Tokens" "count" "I", .methodLink RX10 132 yX8_known, .instanceMethod yX8_known, .selects RX8 yX8_known yX8_known, .initialized RX8, .code yX8_known cX8_known 2 (some (.object "WordTables$Word")), .fieldLink RX8 27 "WordTables$Vocabulary" "wordCount" "I", .fieldLink RX8 17 "WordTables$Vocabulary" "words" "[LWordTables$Word;"] ++ wsX100 ++ wsX70 ++ wsX80)
def wsX10_kindsOf : List Cond := .code yX10_kindsOf cX10_kindsOf 1 (some .int) :: ([.fieldLink RX10 136 "WordTables$Word" "kinds" "I"] ++ wsX90)
def wsX10_token_r1 : List Cond := [Cond.fieldLink RX10 79 "WordTables" "tokens" "LWordTables$Tokens;", Cond.fieldLink RX10 168 "WordTables$Tokens" "sorts" "[I", Cond.fieldLink RX10 172 "WordTables$Tokens" "places" "[I", Cond.fieldLink RX10 175 "WordTables$Tokens" "lengths" "[I", Cond.fieldLink RX10 178 "WordTables$Tokens" "numbers" "[I", Cond.methodLink RX10 165 yX7_has, Cond.instanceMethod yX7_has, Cond.selects RX7 yX7_has yX7_has, Cond.initialized RX7, Cond.code yX7_has cX7_has 2 (some .boolean), Cond.fieldLink RX7 33 "WordTables$Tokens" "count" "I", Cond.methodLink RX10 181 yX10_wordOf, Cond.instanceMethod yX10_wordOf, Cond.selects RX10 yX10_wordOf yX10_wordOf, Cond.initialized RX10, Cond.code yX10_wordOf cX10_wordOf 2 (some (.object "WordTables$Word")), Cond.fieldLink RX10 39 "WordTables" "vocabulary" "LWordTables$Vocabulary;", Cond.methodLink RX10 132 yX8_known, Cond.instanceMethod yX8_known, Cond.selects RX8 yX8_known yX8_known, Cond.initialized RX8, Cond.code yX8_known cX8_known 2 (some (.object "WordTables$Word")), Cond.fieldLink RX8 27 "WordTables$Vocabulary" "wordCount" "I", Cond.fieldLink RX8 17 "WordTables$Vocabulary" "words" "[LWordTables$Word;"]
def wsX10_token_r2 : List Cond := [Cond.methodLink RX10 184 yX10_kindsOf, Cond.static yX10_kindsOf, Cond.code yX10_kindsOf cX10_kindsOf 1 (some .int), Cond.fieldLink RX10 136 "WordTables$Word" "kinds" "I"]
def wsX10_token : List Cond := .code yX10_token cX10_token 3 (some .int) :: ((wsX10_token_r1 ++ wsX10_token_r2) ++ wsX100 ++ wsX70 ++ wsX80 ++ wsX90)
def wsX10_at : List Cond := .code yX10_at cX10_at 3 (some .int) :: ([.fieldLink RX10 79 "WordTables" "tokens" "LWordTables$Tokens;", .fieldLink RX10 175 "WordTables$Tokens" "lengths" "[I", .fieldLink RX10 188 "WordTables$Tokens" "text" "LWordTables$Row;", .fieldLink RX10 172 "WordTables$Tokens" "places" "[I", .methodLink RX10 165 yX7_has, .instanceMethod yX7_has, .selects RX7 yX7_has yX7_has, .initialized RX7, .code yX7_has cX7_has 2 (some .boolean), .fieldLink RX7 33 "WordTables$Tokens" "count" "I", .methodLink RX10 191 yX4_byteAt, .instanceMethod yX4_byteAt, .selects RX4 yX4_byteAt yX4_byteAt, .initialized RX4, .code yX4_byteAt cX4_byteAt 2 (some .int), .fieldLink RX4 21 "WordTables$Row" "count" "I", .fieldLink RX4 15 "WordTables$Row" "bytes" "[I"] ++ wsX100 ++ wsX70 ++ wsX40)
def wsX10_sumUpFrom_r1 : List Cond := [Cond.fieldLink RX10 65 "WordTables" "sum" "LWordTables$Sum;", Cond.fieldLink RX10 79 "WordTables" "tokens" "LWordTables$Tokens;", Cond.fieldLink RX10 168 "WordTables$Tokens" "sorts" "[I", Cond.fieldLink RX10 178 "WordTables$Tokens" "numbers" "[I", Cond.fieldLink RX10 254 "WordTables$Tokens" "count" "I", Cond.fieldLink RX10 147 "WordTables$Word" "worth" "I", Cond.methodLink RX10 255 yX5_clear, Cond.instanceMethod yX5_clear, Cond.selects RX5 yX5_clear yX5_clear, Cond.initialized RX5, Cond.code yX5_clear cX5_clear 1 none, Cond.fieldLink RX5 7 "WordTables$Sum" "rest" "I", Cond.fieldLink RX5 13 "WordTables$Sum" "part" "I", Cond.fieldLink RX5 16 "WordTables$Sum" "length" "I", Cond.methodLink RX10 165 yX7_has, Cond.instanceMethod yX7_has, Cond.selects RX7 yX7_has yX7_has, Cond.initialized RX7, Cond.code yX7_has cX7_has 2 (some .boolean), Cond.fieldLink RX7 33 "WordTables$Tokens" "count" "I", Cond.methodLink RX10 256 yX5_begin, Cond.instanceMethod yX5_begin, Cond.selects RX5 yX5_begin yX5_begin, Cond.code yX5_begin cX5_begin 2 none]
def wsX10_sumUpFrom_r2 : List Cond := [Cond.methodLink RX10 181 yX10_wordOf, Cond.instanceMethod yX10_wordOf, Cond.selects RX10 yX10_wordOf yX10_wordOf, Cond.initialized RX10, Cond.code yX10_wordOf cX10_wordOf 2 (some (.object "WordTables$Word")), Cond.fieldLink RX10 39 "WordTables" "vocabulary" "LWordTables$Vocabulary;", Cond.methodLink RX10 132 yX8_known, Cond.instanceMethod yX8_known, Cond.selects RX8 yX8_known yX8_known, Cond.initialized RX8, Cond.code yX8_known cX8_known 2 (some (.object "WordTables$Word")), Cond.fieldLink RX8 27 "WordTables$Vocabulary" "wordCount" "I", Cond.fieldLink RX8 17 "WordTables$Vocabulary" "words" "[LWordTables$Word;", Cond.methodLink RX10 144 yX9_isOneOf, Cond.instanceMethod yX9_isOneOf, Cond.selects RX9 yX9_isOneOf yX9_isOneOf, Cond.initialized RX9, Cond.code yX9_isOneOf cX9_isOneOf 2 (some .boolean), Cond.fieldLink RX9 34 "WordTables$Word" "kinds" "I", Cond.methodLink RX10 259 yX5_accept, Cond.instanceMethod yX5_accept, Cond.selects RX5 yX5_accept yX5_accept, Cond.code yX5_accept cX5_accept 2 (some .boolean), Cond.methodLink RX5 19 yX5_begin]
def wsX10_sumUpFrom_r3 : List Cond := [Cond.methodLink RX5 23 yX5_fitsBelowHundred, Cond.instanceMethod yX5_fitsBelowHundred, Cond.selects RX5 yX5_fitsBelowHundred yX5_fitsBelowHundred, Cond.code yX5_fitsBelowHundred cX5_fitsBelowHundred 3 (some .boolean), Cond.methodLink RX5 27 yX5_fitsBelowTen, Cond.instanceMethod yX5_fitsBelowTen, Cond.selects RX5 yX5_fitsBelowTen yX5_fitsBelowTen, Cond.code yX5_fitsBelowTen cX5_fitsBelowTen 3 (some .boolean)]
def wsX10_sumUpFrom : List Cond := .code yX10_sumUpFrom cX10_sumUpFrom 5 none :: ((wsX10_sumUpFrom_r1 ++ (wsX10_sumUpFrom_r2 ++ wsX10_sumUpFrom_r3)) ++ wsX100 ++ wsX70 ++ wsX90 ++ wsX50 ++ wsX80)
def wsX10_amount_r1 : List Cond := [Cond.fieldLink RX10 79 "WordTables" "tokens" "LWordTables$Tokens;", Cond.fieldLink RX10 65 "WordTables" "sum" "LWordTables$Sum;", Cond.fieldLink RX10 197 "WordTables$Sum" "length" "I", Cond.fieldLink RX10 200 "WordTables$Sum" "rest" "I", Cond.fieldLink RX10 203 "WordTables$Sum" "part" "I", Cond.methodLink RX10 165 yX7_has, Cond.instanceMethod yX7_has, Cond.selects RX7 yX7_has yX7_has, Cond.initialized RX7, Cond.code yX7_has cX7_has 2 (some .boolean), Cond.fieldLink RX7 33 "WordTables$Tokens" "count" "I", Cond.methodLink RX10 194 yX10_sumUpFrom, Cond.instanceMethod yX10_sumUpFrom, Cond.selects RX10 yX10_sumUpFrom yX10_sumUpFrom, Cond.initialized RX10, Cond.code yX10_sumUpFrom cX10_sumUpFrom 5 none, Cond.fieldLink RX10 168 "WordTables$Tokens" "sorts" "[I", Cond.fieldLink RX10 178 "WordTables$Tokens" "numbers" "[I", Cond.fieldLink RX10 254 "WordTables$Tokens" "count" "I", Cond.fieldLink RX10 147 "WordTables$Word" "worth" "I", Cond.methodLink RX10 255 yX5_clear, Cond.instanceMethod yX5_clear, Cond.selects RX5 yX5_clear yX5_clear, Cond.initialized RX5]
def wsX10_amount_r2 : List Cond := [Cond.code yX5_clear cX5_clear 1 none, Cond.fieldLink RX5 7 "WordTables$Sum" "rest" "I", Cond.fieldLink RX5 13 "WordTables$Sum" "part" "I", Cond.fieldLink RX5 16 "WordTables$Sum" "length" "I", Cond.methodLink RX10 256 yX5_begin, Cond.instanceMethod yX5_begin, Cond.selects RX5 yX5_begin yX5_begin, Cond.code yX5_begin cX5_begin 2 none, Cond.methodLink RX10 181 yX10_wordOf, Cond.instanceMethod yX10_wordOf, Cond.selects RX10 yX10_wordOf yX10_wordOf, Cond.code yX10_wordOf cX10_wordOf 2 (some (.object "WordTables$Word")), Cond.fieldLink RX10 39 "WordTables" "vocabulary" "LWordTables$Vocabulary;", Cond.methodLink RX10 132 yX8_known, Cond.instanceMethod yX8_known, Cond.selects RX8 yX8_known yX8_known, Cond.initialized RX8, Cond.code yX8_known cX8_known 2 (some (.object "WordTables$Word")), Cond.fieldLink RX8 27 "WordTables$Vocabulary" "wordCount" "I", Cond.fieldLink RX8 17 "WordTables$Vocabulary" "words" "[LWordTables$Word;", Cond.methodLink RX10 144 yX9_isOneOf, Cond.instanceMethod yX9_isOneOf, Cond.selects RX9 yX9_isOneOf yX9_isOneOf, Cond.initialized RX9]
def wsX10_amount_r3 : List Cond := [Cond.code yX9_isOneOf cX9_isOneOf 2 (some .boolean), Cond.fieldLink RX9 34 "WordTables$Word" "kinds" "I", Cond.methodLink RX10 259 yX5_accept, Cond.instanceMethod yX5_accept, Cond.selects RX5 yX5_accept yX5_accept, Cond.code yX5_accept cX5_accept 2 (some .boolean), Cond.methodLink RX5 19 yX5_begin, Cond.methodLink RX5 23 yX5_fitsBelowHundred, Cond.instanceMethod yX5_fitsBelowHundred, Cond.selects RX5 yX5_fitsBelowHundred yX5_fitsBelowHundred, Cond.code yX5_fitsBelowHundred cX5_fitsBelowHundred 3 (some .boolean), Cond.methodLink RX5 27 yX5_fitsBelowTen, Cond.instanceMethod yX5_fitsBelowTen, Cond.selects RX5 yX5_fitsBelowTen yX5_fitsBelowTen, Cond.code yX5_fitsBelowTen cX5_fitsBelowTen 3 (some .boolean)]
def wsX10_amount : List Cond := .code yX10_amount cX10_amount 2 (some .int) :: ((wsX10_amount_r1 ++ (wsX10_amount_r2 ++ wsX10_amount_r3)) ++ wsX100 ++ wsX50 ++ wsX70 ++ wsX90 ++ wsX80)
def wsX10_amountLength_r1 : List Cond := [Cond.fieldLink RX10 79 "WordTables" "tokens" "LWordTables$Tokens;", Cond.fieldLink RX10 65 "WordTables" "sum" "LWordTables$Sum;", Cond.fieldLink RX10 197 "WordTables$Sum" "length" "I", Cond.methodLink RX10 165 yX7_has, Cond.instanceMethod yX7_has, Cond.selects RX7 yX7_has yX7_has, Cond.initialized RX7, Cond.code yX7_has cX7_has 2 (some .boolean), Cond.fieldLink RX7 33 "WordTables$Tokens" "count" "I", Cond.methodLink RX10 194 yX10_sumUpFrom, Cond.instanceMethod yX10_sumUpFrom, Cond.selects RX10 yX10_sumUpFrom yX10_sumUpFrom, Cond.initialized RX10, Cond.code yX10_sumUpFrom cX10_sumUpFrom 5 none, Cond.fieldLink RX10 168 "WordTables$Tokens" "sorts" "[I", Cond.fieldLink RX10 178 "WordTables$Tokens" "numbers" "[I", Cond.fieldLink RX10 254 "WordTables$Tokens" "count" "I", Cond.fieldLink RX10 147 "WordTables$Word" "worth" "I", Cond.methodLink RX10 255 yX5_clear, Cond.instanceMethod yX5_clear, Cond.selects RX5 yX5_clear yX5_clear, Cond.initialized RX5, Cond.code yX5_clear cX5_clear 1 none, Cond.fieldLink RX5 7 "WordTables$Sum" "rest" "I"]
def wsX10_amountLength_r2 : List Cond := [Cond.fieldLink RX5 13 "WordTables$Sum" "part" "I", Cond.fieldLink RX5 16 "WordTables$Sum" "length" "I", Cond.methodLink RX10 256 yX5_begin, Cond.instanceMethod yX5_begin, Cond.selects RX5 yX5_begin yX5_begin, Cond.code yX5_begin cX5_begin 2 none, Cond.methodLink RX10 181 yX10_wordOf, Cond.instanceMethod yX10_wordOf, Cond.selects RX10 yX10_wordOf yX10_wordOf, Cond.code yX10_wordOf cX10_wordOf 2 (some (.object "WordTables$Word")), Cond.fieldLink RX10 39 "WordTables" "vocabulary" "LWordTables$Vocabulary;", Cond.methodLink RX10 132 yX8_known, Cond.instanceMethod yX8_known, Cond.selects RX8 yX8_known yX8_known, Cond.initialized RX8, Cond.code yX8_known cX8_known 2 (some (.object "WordTables$Word")), Cond.fieldLink RX8 27 "WordTables$Vocabulary" "wordCount" "I", Cond.fieldLink RX8 17 "WordTables$Vocabulary" "words" "[LWordTables$Word;", Cond.methodLink RX10 144 yX9_isOneOf, Cond.instanceMethod yX9_isOneOf, Cond.selects RX9 yX9_isOneOf yX9_isOneOf, Cond.initialized RX9, Cond.code yX9_isOneOf cX9_isOneOf 2 (some .boolean), Cond.fieldLink RX9 34 "WordTables$Word" "kinds" "I"]
def wsX10_amountLength_r3 : List Cond := [Cond.methodLink RX10 259 yX5_accept, Cond.instanceMethod yX5_accept, Cond.selects RX5 yX5_accept yX5_accept, Cond.code yX5_accept cX5_accept 2 (some .boolean), Cond.methodLink RX5 19 yX5_begin, Cond.methodLink RX5 23 yX5_fitsBelowHundred, Cond.instanceMethod yX5_fitsBelowHundred, Cond.selects RX5 yX5_fitsBelowHundred yX5_fitsBelowHundred, Cond.code yX5_fitsBelowHundred cX5_fitsBelowHundred 3 (some .boolean), Cond.methodLink RX5 27 yX5_fitsBelowTen, Cond.instanceMethod yX5_fitsBelowTen, Cond.selects RX5 yX5_fitsBelowTen yX5_fitsBelowTen, Cond.code yX5_fitsBelowTen cX5_fitsBelowTen 3 (some .boolean)]
def wsX10_amountLength : List Cond := .code yX10_amountLength cX10_amountLength 2 (some .int) :: ((wsX10_amountLength_r1 ++ (wsX10_amountLength_r2 ++ wsX10_amountLength_r3)) ++ wsX100 ++ wsX50 ++ wsX70 ++ wsX90 ++ wsX80)
def wsX10_thing : List Cond := .code yX10_thing cX10_thing 1 (some .int) :: ([.fieldLink RX10 58 "WordTables" "things" "LWordTables$Things;", .fieldLink RX10 209 "WordTables$Things" "count" "I", .methodLink RX10 206 yX6_addThing, .instanceMethod yX6_addThing, .selects RX6 yX6_addThing yX6_addThing, .initialized RX6, .code yX6_addThing cX6_addThing 1 (some .boolean), .fieldLink RX6 21 "WordTables$Things" "count" "I"] ++ wsX100 ++ wsX60)
def wsX10_isFlag : List Cond := .code yX10_isFlag cX10_isFlag 1 (some .boolean) :: ([])
def wsX10_means_r1 : List Cond := [Cond.fieldLink RX10 58 "WordTables" "things" "LWordTables$Things;", Cond.fieldLink RX10 39 "WordTables" "vocabulary" "LWordTables$Vocabulary;", Cond.fieldLink RX10 218 "WordTables$Things" "meaningCount" "I", Cond.methodLink RX10 210 yX6_has, Cond.instanceMethod yX6_has, Cond.selects RX6 yX6_has yX6_has, Cond.initialized RX6, Cond.code yX6_has cX6_has 2 (some .boolean), Cond.fieldLink RX6 21 "WordTables$Things" "count" "I", Cond.methodLink RX10 132 yX8_known, Cond.instanceMethod yX8_known, Cond.selects RX8 yX8_known yX8_known, Cond.initialized RX8, Cond.code yX8_known cX8_known 2 (some (.object "WordTables$Word")), Cond.fieldLink RX8 27 "WordTables$Vocabulary" "wordCount" "I", Cond.fieldLink RX8 17 "WordTables$Vocabulary" "words" "[LWordTables$Word;", Cond.methodLink RX10 211 yX10_isFlag, Cond.static yX10_isFlag, Cond.initialized RX10, Cond.code yX10_isFlag cX10_isFlag 1 (some .boolean), Cond.methodLink RX10 214 yX6_addMeaning, Cond.instanceMethod yX6_addMeaning, Cond.selects RX6 yX6_addMeaning yX6_addMeaning, Cond.code yX6_addMeaning cX6_addMeaning 4 (some .boolean)]
def wsX10_means_r2 : List Cond := [Cond.fieldLink RX6 25 "WordTables$Things" "meaningCount" "I", Cond.fieldLink RX6 9 "WordTables$Things" "meaningThings" "[I", Cond.fieldLink RX6 15 "WordTables$Things" "meaningWords" "[I", Cond.fieldLink RX6 18 "WordTables$Things" "meaningFlags" "[I"]
def wsX10_means : List Cond := .code yX10_means cX10_means 4 (some .int) :: ((wsX10_means_r1 ++ wsX10_means_r2) ++ wsX100 ++ wsX60 ++ wsX80)
def wsX10_flag : List Cond := .code yX10_flag cX10_flag 4 (some .int) :: ([.fieldLink RX10 58 "WordTables" "things" "LWordTables$Things;", .methodLink RX10 211 yX10_isFlag, .static yX10_isFlag, .initialized RX10, .code yX10_isFlag cX10_isFlag 1 (some .boolean), .methodLink RX10 221 yX6_isUp, .instanceMethod yX6_isUp, .selects RX6 yX6_isUp yX6_isUp, .initialized RX6, .code yX6_isUp cX6_isUp 2 (some .boolean), .fieldLink RX6 28 "WordTables$Things" "flagsUp" "I", .methodLink RX10 224 yX6_setFlag, .instanceMethod yX6_setFlag, .selects RX6 yX6_setFlag yX6_setFlag, .code yX6_setFlag cX6_setFlag 4 none] ++ wsX100 ++ wsX60)
def wsX10_refer : List Cond := .code yX10_refer cX10_refer 5 (some .int) :: ([.fieldLink RX10 39 "WordTables" "vocabulary" "LWordTables$Vocabulary;", .fieldLink RX10 58 "WordTables" "things" "LWordTables$Things;", .fieldLink RX10 231 "WordTables$Word" "refersTo" "I", .methodLink RX10 132 yX8_known, .instanceMethod yX8_known, .selects RX8 yX8_known yX8_known, .initialized RX8, .code yX8_known cX8_known 2 (some (.object "WordTables$Word")), .fieldLink RX8 27 "WordTables$Vocabulary" "wordCount" "I", .fieldLink RX8 17 "WordTables$Vocabulary" "words" "[LWordTables$Word;", .methodLink RX10 228 yX6_areAll, .instanceMethod yX6_areAll, .selects RX6 yX6_areAll yX6_areAll, .initialized RX6, .code yX6_areAll cX6_areAll 2 (some .boolean), .fieldLink RX6 21 "WordTables$Things" "count" "I", .methodLink RX10 144 yX9_isOneOf, .instanceMethod yX9_isOneOf, .selects RX9 yX9_isOneOf yX9_isOneOf, .initialized RX9, .code yX9_isOneOf cX9_isOneOf 2 (some .boolean), .fieldLink RX9 34 "WordTables$Word" "kinds" "I"] ++ wsX100 ++ wsX90 ++ wsX80 ++ wsX60)
def wsX10_thingsMeantAt_r1 : List Cond := [Cond.fieldLink RX10 58 "WordTables" "things" "LWordTables$Things;", Cond.fieldLink RX10 79 "WordTables" "tokens" "LWordTables$Tokens;", Cond.fieldLink RX10 178 "WordTables$Tokens" "numbers" "[I", Cond.fieldLink RX10 150 "WordTables$Word" "pluralOf" "I", Cond.fieldLink RX10 231 "WordTables$Word" "refersTo" "I", Cond.methodLink RX10 181 yX10_wordOf, Cond.instanceMethod yX10_wordOf, Cond.selects RX10 yX10_wordOf yX10_wordOf, Cond.initialized RX10, Cond.code yX10_wordOf cX10_wordOf 2 (some (.object "WordTables$Word")), Cond.fieldLink RX10 168 "WordTables$Tokens" "sorts" "[I", Cond.fieldLink RX10 39 "WordTables" "vocabulary" "LWordTables$Vocabulary;", Cond.methodLink RX10 165 yX7_has, Cond.instanceMethod yX7_has, Cond.selects RX7 yX7_has yX7_has, Cond.initialized RX7, Cond.code yX7_has cX7_has 2 (some .boolean), Cond.fieldLink RX7 33 "WordTables$Tokens" "count" "I", Cond.methodLink RX10 132 yX8_known, Cond.instanceMethod yX8_known, Cond.selects RX8 yX8_known yX8_known, Cond.initialized RX8, Cond.code yX8_known cX8_known 2 (some (.object "WordTables$Word")), Cond.fieldLink RX8 27 "WordTables$Vocabulary" "wordCount" "I"]
def wsX10_thingsMeantAt_r2 : List Cond := [Cond.fieldLink RX8 17 "WordTables$Vocabulary" "words" "[LWordTables$Word;", Cond.methodLink RX10 262 yX6_meantBy, Cond.instanceMethod yX6_meantBy, Cond.selects RX6 yX6_meantBy yX6_meantBy, Cond.initialized RX6, Cond.code yX6_meantBy cX6_meantBy 5 (some .int), Cond.fieldLink RX6 25 "WordTables$Things" "meaningCount" "I", Cond.fieldLink RX6 18 "WordTables$Things" "meaningFlags" "[I", Cond.fieldLink RX6 15 "WordTables$Things" "meaningWords" "[I", Cond.fieldLink RX6 9 "WordTables$Things" "meaningThings" "[I", Cond.methodLink RX6 31 yX6_isUp, Cond.instanceMethod yX6_isUp, Cond.selects RX6 yX6_isUp yX6_isUp, Cond.code yX6_isUp cX6_isUp 2 (some .boolean), Cond.fieldLink RX6 28 "WordTables$Things" "flagsUp" "I", Cond.methodLink RX10 144 yX9_isOneOf, Cond.instanceMethod yX9_isOneOf, Cond.selects RX9 yX9_isOneOf yX9_isOneOf, Cond.initialized RX9, Cond.code yX9_isOneOf cX9_isOneOf 2 (some .boolean), Cond.fieldLink RX9 34 "WordTables$Word" "kinds" "I"]
def wsX10_thingsMeantAt : List Cond := .code yX10_thingsMeantAt cX10_thingsMeantAt 4 (some .int) :: ((wsX10_thingsMeantAt_r1 ++ wsX10_thingsMeantAt_r2) ++ wsX100 ++ wsX70 ++ wsX90 ++ wsX80 ++ wsX60)
def wsX10_meant_r1 : List Cond := [Cond.fieldLink RX10 79 "WordTables" "tokens" "LWordTables$Tokens;", Cond.methodLink RX10 165 yX7_has, Cond.instanceMethod yX7_has, Cond.selects RX7 yX7_has yX7_has, Cond.initialized RX7, Cond.code yX7_has cX7_has 2 (some .boolean), Cond.fieldLink RX7 33 "WordTables$Tokens" "count" "I", Cond.methodLink RX10 234 yX10_thingsMeantAt, Cond.instanceMethod yX10_thingsMeantAt, Cond.selects RX10 yX10_thingsMeantAt yX10_thingsMeantAt, Cond.initialized RX10, Cond.code yX10_thingsMeantAt cX10_thingsMeantAt 4 (some .int), Cond.fieldLink RX10 58 "WordTables" "things" "LWordTables$Things;", Cond.fieldLink RX10 178 "WordTables$Tokens" "numbers" "[I", Cond.fieldLink RX10 150 "WordTables$Word" "pluralOf" "I", Cond.fieldLink RX10 231 "WordTables$Word" "refersTo" "I", Cond.methodLink RX10 181 yX10_wordOf, Cond.instanceMethod yX10_wordOf, Cond.selects RX10 yX10_wordOf yX10_wordOf, Cond.code yX10_wordOf cX10_wordOf 2 (some (.object "WordTables$Word")), Cond.fieldLink RX10 168 "WordTables$Tokens" "sorts" "[I", Cond.fieldLink RX10 39 "WordTables" "vocabulary" "LWordTables$Vocabulary;", Cond.methodLink RX10 132 yX8_known, Cond.instanceMethod yX8_known]
def wsX10_meant_r2 : List Cond := [Cond.selects RX8 yX8_known yX8_known, Cond.initialized RX8, Cond.code yX8_known cX8_known 2 (some (.object "WordTables$Word")), Cond.fieldLink RX8 27 "WordTables$Vocabulary" "wordCount" "I", Cond.fieldLink RX8 17 "WordTables$Vocabulary" "words" "[LWordTables$Word;", Cond.methodLink RX10 262 yX6_meantBy, Cond.instanceMethod yX6_meantBy, Cond.selects RX6 yX6_meantBy yX6_meantBy, Cond.initialized RX6, Cond.code yX6_meantBy cX6_meantBy 5 (some .int), Cond.fieldLink RX6 25 "WordTables$Things" "meaningCount" "I", Cond.fieldLink RX6 18 "WordTables$Things" "meaningFlags" "[I", Cond.fieldLink RX6 15 "WordTables$Things" "meaningWords" "[I", Cond.fieldLink RX6 9 "WordTables$Things" "meaningThings" "[I", Cond.methodLink RX6 31 yX6_isUp, Cond.instanceMethod yX6_isUp, Cond.selects RX6 yX6_isUp yX6_isUp, Cond.code yX6_isUp cX6_isUp 2 (some .boolean), Cond.fieldLink RX6 28 "WordTables$Things" "flagsUp" "I", Cond.methodLink RX10 144 yX9_isOneOf, Cond.instanceMethod yX9_isOneOf, Cond.selects RX9 yX9_isOneOf yX9_isOneOf, Cond.initialized RX9, Cond.code yX9_isOneOf cX9_isOneOf 2 (some .boolean)]
def wsX10_meant_r3 : List Cond := [Cond.fieldLink RX9 34 "WordTables$Word" "kinds" "I"]
def wsX10_meant : List Cond := .code yX10_meant cX10_meant 2 (some .int) :: ((wsX10_meant_r1 ++ (wsX10_meant_r2 ++ wsX10_meant_r3)) ++ wsX100 ++ wsX70 ++ wsX90 ++ wsX80 ++ wsX60)
def wsX10_followPhraseFrom_r1 : List Cond := [Cond.fieldLink RX10 72 "WordTables" "common" "LWordTables$Common;", Cond.fieldLink RX10 79 "WordTables" "tokens" "LWordTables$Tokens;", Cond.fieldLink RX10 254 "WordTables$Tokens" "count" "I", Cond.methodLink RX10 265 yX0_clear, Cond.instanceMethod yX0_clear, Cond.selects RX0 yX0_clear yX0_clear, Cond.initialized RX0, Cond.code yX0_clear cX0_clear 1 none, Cond.fieldLink RX0 7 "WordTables$Common" "shared" "I", Cond.fieldLink RX0 13 "WordTables$Common" "length" "I", Cond.methodLink RX10 181 yX10_wordOf, Cond.instanceMethod yX10_wordOf, Cond.selects RX10 yX10_wordOf yX10_wordOf, Cond.initialized RX10, Cond.code yX10_wordOf cX10_wordOf 2 (some (.object "WordTables$Word")), Cond.fieldLink RX10 168 "WordTables$Tokens" "sorts" "[I", Cond.fieldLink RX10 39 "WordTables" "vocabulary" "LWordTables$Vocabulary;", Cond.fieldLink RX10 178 "WordTables$Tokens" "numbers" "[I", Cond.methodLink RX10 165 yX7_has, Cond.instanceMethod yX7_has, Cond.selects RX7 yX7_has yX7_has, Cond.initialized RX7, Cond.code yX7_has cX7_has 2 (some .boolean), Cond.fieldLink RX7 33 "WordTables$Tokens" "count" "I"]
def wsX10_followPhraseFrom_r2 : List Cond := [Cond.methodLink RX10 132 yX8_known, Cond.instanceMethod yX8_known, Cond.selects RX8 yX8_known yX8_known, Cond.initialized RX8, Cond.code yX8_known cX8_known 2 (some (.object "WordTables$Word")), Cond.fieldLink RX8 27 "WordTables$Vocabulary" "wordCount" "I", Cond.fieldLink RX8 17 "WordTables$Vocabulary" "words" "[LWordTables$Word;", Cond.methodLink RX10 144 yX9_isOneOf, Cond.instanceMethod yX9_isOneOf, Cond.selects RX9 yX9_isOneOf yX9_isOneOf, Cond.initialized RX9, Cond.code yX9_isOneOf cX9_isOneOf 2 (some .boolean), Cond.fieldLink RX9 34 "WordTables$Word" "kinds" "I", Cond.methodLink RX10 234 yX10_thingsMeantAt, Cond.instanceMethod yX10_thingsMeantAt, Cond.selects RX10 yX10_thingsMeantAt yX10_thingsMeantAt, Cond.code yX10_thingsMeantAt cX10_thingsMeantAt 4 (some .int), Cond.fieldLink RX10 58 "WordTables" "things" "LWordTables$Things;", Cond.fieldLink RX10 150 "WordTables$Word" "pluralOf" "I", Cond.fieldLink RX10 231 "WordTables$Word" "refersTo" "I", Cond.methodLink RX10 262 yX6_meantBy, Cond.instanceMethod yX6_meantBy, Cond.selects RX6 yX6_meantBy yX6_meantBy, Cond.initialized RX6]
def wsX10_followPhraseFrom_r3 : List Cond := [Cond.code yX6_meantBy cX6_meantBy 5 (some .int), Cond.fieldLink RX6 25 "WordTables$Things" "meaningCount" "I", Cond.fieldLink RX6 18 "WordTables$Things" "meaningFlags" "[I", Cond.fieldLink RX6 15 "WordTables$Things" "meaningWords" "[I", Cond.fieldLink RX6 9 "WordTables$Things" "meaningThings" "[I", Cond.methodLink RX6 31 yX6_isUp, Cond.instanceMethod yX6_isUp, Cond.selects RX6 yX6_isUp yX6_isUp, Cond.code yX6_isUp cX6_isUp 2 (some .boolean), Cond.fieldLink RX6 28 "WordTables$Things" "flagsUp" "I", Cond.methodLink RX10 266 yX0_accept, Cond.instanceMethod yX0_accept, Cond.selects RX0 yX0_accept yX0_accept, Cond.code yX0_accept cX0_accept 3 (some .boolean)]
def wsX10_followPhraseFrom : List Cond := .code yX10_followPhraseFrom cX10_followPhraseFrom 5 none :: ((wsX10_followPhraseFrom_r1 ++ (wsX10_followPhraseFrom_r2 ++ wsX10_followPhraseFrom_r3)) ++ wsX100 ++ wsX70 ++ wsX00 ++ wsX80 ++ wsX90 ++ wsX60)
def wsX10_phrase_r1 : List Cond := [Cond.fieldLink RX10 79 "WordTables" "tokens" "LWordTables$Tokens;", Cond.fieldLink RX10 72 "WordTables" "common" "LWordTables$Common;", Cond.fieldLink RX10 240 "WordTables$Common" "shared" "I", Cond.methodLink RX10 165 yX7_has, Cond.instanceMethod yX7_has, Cond.selects RX7 yX7_has yX7_has, Cond.initialized RX7, Cond.code yX7_has cX7_has 2 (some .boolean), Cond.fieldLink RX7 33 "WordTables$Tokens" "count" "I", Cond.methodLink RX10 237 yX10_followPhraseFrom, Cond.instanceMethod yX10_followPhraseFrom, Cond.selects RX10 yX10_followPhraseFrom yX10_followPhraseFrom, Cond.initialized RX10, Cond.code yX10_followPhraseFrom cX10_followPhraseFrom 5 none, Cond.fieldLink RX10 254 "WordTables$Tokens" "count" "I", Cond.methodLink RX10 265 yX0_clear, Cond.instanceMethod yX0_clear, Cond.selects RX0 yX0_clear yX0_clear, Cond.initialized RX0, Cond.code yX0_clear cX0_clear 1 none, Cond.fieldLink RX0 7 "WordTables$Common" "shared" "I", Cond.fieldLink RX0 13 "WordTables$Common" "length" "I", Cond.methodLink RX10 181 yX10_wordOf, Cond.instanceMethod yX10_wordOf]
def wsX10_phrase_r2 : List Cond := [Cond.selects RX10 yX10_wordOf yX10_wordOf, Cond.code yX10_wordOf cX10_wordOf 2 (some (.object "WordTables$Word")), Cond.fieldLink RX10 168 "WordTables$Tokens" "sorts" "[I", Cond.fieldLink RX10 39 "WordTables" "vocabulary" "LWordTables$Vocabulary;", Cond.fieldLink RX10 178 "WordTables$Tokens" "numbers" "[I", Cond.methodLink RX10 132 yX8_known, Cond.instanceMethod yX8_known, Cond.selects RX8 yX8_known yX8_known, Cond.initialized RX8, Cond.code yX8_known cX8_known 2 (some (.object "WordTables$Word")), Cond.fieldLink RX8 27 "WordTables$Vocabulary" "wordCount" "I", Cond.fieldLink RX8 17 "WordTables$Vocabulary" "words" "[LWordTables$Word;", Cond.methodLink RX10 144 yX9_isOneOf, Cond.instanceMethod yX9_isOneOf, Cond.selects RX9 yX9_isOneOf yX9_isOneOf, Cond.initialized RX9, Cond.code yX9_isOneOf cX9_isOneOf 2 (some .boolean), Cond.fieldLink RX9 34 "WordTables$Word" "kinds" "I", Cond.methodLink RX10 234 yX10_thingsMeantAt, Cond.instanceMethod yX10_thingsMeantAt, Cond.selects RX10 yX10_thingsMeantAt yX10_thingsMeantAt, Cond.code yX10_thingsMeantAt cX10_thingsMeantAt 4 (some .int), Cond.fieldLink RX10 58 "WordTables" "things" "LWordTables$Things;", Cond.fieldLink RX10 150 "WordTables$Word" "pluralOf" "I"]
def wsX10_phrase_r3 : List Cond := [Cond.fieldLink RX10 231 "WordTables$Word" "refersTo" "I", Cond.methodLink RX10 262 yX6_meantBy, Cond.instanceMethod yX6_meantBy, Cond.selects RX6 yX6_meantBy yX6_meantBy, Cond.initialized RX6, Cond.code yX6_meantBy cX6_meantBy 5 (some .int), Cond.fieldLink RX6 25 "WordTables$Things" "meaningCount" "I", Cond.fieldLink RX6 18 "WordTables$Things" "meaningFlags" "[I", Cond.fieldLink RX6 15 "WordTables$Things" "meaningWords" "[I", Cond.fieldLink RX6 9 "WordTables$Things" "meaningThings" "[I", Cond.methodLink RX6 31 yX6_isUp, Cond.instanceMethod yX6_isUp, Cond.selects RX6 yX6_isUp yX6_isUp, Cond.code yX6_isUp cX6_isUp 2 (some .boolean), Cond.fieldLink RX6 28 "WordTables$Things" "flagsUp" "I", Cond.methodLink RX10 266 yX0_accept, Cond.instanceMethod yX0_accept, Cond.selects RX0 yX0_accept yX0_accept, Cond.code yX0_accept cX0_accept 3 (some .boolean)]
def wsX10_phrase : List Cond := .code yX10_phrase cX10_phrase 2 (some .int) :: ((wsX10_phrase_r1 ++ (wsX10_phrase_r2 ++ wsX10_phrase_r3)) ++ wsX100 ++ wsX00 ++ wsX70 ++ wsX80 ++ wsX90 ++ wsX60)
def wsX10_phraseLength_r1 : List Cond := [Cond.fieldLink RX10 79 "WordTables" "tokens" "LWordTables$Tokens;", Cond.fieldLink RX10 72 "WordTables" "common" "LWordTables$Common;", Cond.fieldLink RX10 243 "WordTables$Common" "length" "I", Cond.methodLink RX10 165 yX7_has, Cond.instanceMethod yX7_has, Cond.selects RX7 yX7_has yX7_has, Cond.initialized RX7, Cond.code yX7_has cX7_has 2 (some .boolean), Cond.fieldLink RX7 33 "WordTables$Tokens" "count" "I", Cond.methodLink RX10 237 yX10_followPhraseFrom, Cond.instanceMethod yX10_followPhraseFrom, Cond.selects RX10 yX10_followPhraseFrom yX10_followPhraseFrom, Cond.initialized RX10, Cond.code yX10_followPhraseFrom cX10_followPhraseFrom 5 none, Cond.fieldLink RX10 254 "WordTables$Tokens" "count" "I", Cond.methodLink RX10 265 yX0_clear, Cond.instanceMethod yX0_clear, Cond.selects RX0 yX0_clear yX0_clear, Cond.initialized RX0, Cond.code yX0_clear cX0_clear 1 none, Cond.fieldLink RX0 7 "WordTables$Common" "shared" "I", Cond.fieldLink RX0 13 "WordTables$Common" "length" "I", Cond.methodLink RX10 181 yX10_wordOf, Cond.instanceMethod yX10_wordOf]
def wsX10_phraseLength_r2 : List Cond := [Cond.selects RX10 yX10_wordOf yX10_wordOf, Cond.code yX10_wordOf cX10_wordOf 2 (some (.object "WordTables$Word")), Cond.fieldLink RX10 168 "WordTables$Tokens" "sorts" "[I", Cond.fieldLink RX10 39 "WordTables" "vocabulary" "LWordTables$Vocabulary;", Cond.fieldLink RX10 178 "WordTables$Tokens" "numbers" "[I", Cond.methodLink RX10 132 yX8_known, Cond.instanceMethod yX8_known, Cond.selects RX8 yX8_known yX8_known, Cond.initialized RX8, Cond.code yX8_known cX8_known 2 (some (.object "WordTables$Word")), Cond.fieldLink RX8 27 "WordTables$Vocabulary" "wordCount" "I", Cond.fieldLink RX8 17 "WordTables$Vocabulary" "words" "[LWordTables$Word;", Cond.methodLink RX10 144 yX9_isOneOf, Cond.instanceMethod yX9_isOneOf, Cond.selects RX9 yX9_isOneOf yX9_isOneOf, Cond.initialized RX9, Cond.code yX9_isOneOf cX9_isOneOf 2 (some .boolean), Cond.fieldLink RX9 34 "WordTables$Word" "kinds" "I", Cond.methodLink RX10 234 yX10_thingsMeantAt, Cond.instanceMethod yX10_thingsMeantAt, Cond.selects RX10 yX10_thingsMeantAt yX10_thingsMeantAt, Cond.code yX10_thingsMeantAt cX10_thingsMeantAt 4 (some .int), Cond.fieldLink RX10 58 "WordTables" "things" "LWordTables$Things;", Cond.fieldLink RX10 150 "WordTables$Word" "pluralOf" "I"]
def wsX10_phraseLength_r3 : List Cond := [Cond.fieldLink RX10 231 "WordTables$Word" "refersTo" "I", Cond.methodLink RX10 262 yX6_meantBy, Cond.instanceMethod yX6_meantBy, Cond.selects RX6 yX6_meantBy yX6_meantBy, Cond.initialized RX6, Cond.code yX6_meantBy cX6_meantBy 5 (some .int), Cond.fieldLink RX6 25 "WordTables$Things" "meaningCount" "I", Cond.fieldLink RX6 18 "WordTables$Things" "meaningFlags" "[I", Cond.fieldLink RX6 15 "WordTables$Things" "meaningWords" "[I", Cond.fieldLink RX6 9 "WordTables$Things" "meaningThings" "[I", Cond.methodLink RX6 31 yX6_isUp, Cond.instanceMethod yX6_isUp, Cond.selects RX6 yX6_isUp yX6_isUp, Cond.code yX6_isUp cX6_isUp 2 (some .boolean), Cond.fieldLink RX6 28 "WordTables$Things" "flagsUp" "I", Cond.methodLink RX10 266 yX0_accept, Cond.instanceMethod yX0_accept, Cond.selects RX0 yX0_accept yX0_accept, Cond.code yX0_accept cX0_accept 3 (some .boolean)]
def wsX10_phraseLength : List Cond := .code yX10_phraseLength cX10_phraseLength 2 (some .int) :: ((wsX10_phraseLength_r1 ++ (wsX10_phraseLength_r2 ++ wsX10_phraseLength_r3)) ++ wsX100 ++ wsX00 ++ wsX70 ++ wsX80 ++ wsX90 ++ wsX60)
def wsX10_about : List Cond := .code yX10_about cX10_about 4 (some .int) :: ([.fieldLink RX10 39 "WordTables" "vocabulary" "LWordTables$Vocabulary;", .fieldLink RX10 244 "WordTables$Word" "language" "I", .fieldLink RX10 136 "WordTables$Word" "kinds" "I", .fieldLink RX10 147 "WordTables$Word" "worth" "I", .fieldLink RX10 150 "WordTables$Word" "pluralOf" "I", .fieldLink RX10 247 "WordTables$Word" "spelling" "LWordTables$Row;", .fieldLink RX10 118 "WordTables$Row" "count" "I", .fieldLink RX10 231 "WordTables$Word" "refersTo" "I", .methodLink RX10 132 yX8_known, .instanceMethod yX8_known, .selects RX8 yX8_known yX8_known, .initialized RX8, .code yX8_known cX8_known 2 (some (.object "WordTables$Word")), .fieldLink RX8 27 "WordTables$Vocabulary" "wordCount" "I", .fieldLink RX8 17 "WordTables$Vocabulary" "words" "[LWordTables$Word;"] ++ wsX100 ++ wsX90 ++ wsX40 ++ wsX80)
def wsX10_equal_r1 : List Cond := [Cond.fieldLink RX10 39 "WordTables" "vocabulary" "LWordTables$Vocabulary;", Cond.fieldLink RX10 23 "WordTables" "letters" "LWordTables$Letters;", Cond.fieldLink RX10 247 "WordTables$Word" "spelling" "LWordTables$Row;", Cond.fieldLink RX10 118 "WordTables$Row" "count" "I", Cond.methodLink RX10 132 yX8_known, Cond.instanceMethod yX8_known, Cond.selects RX8 yX8_known yX8_known, Cond.initialized RX8, Cond.code yX8_known cX8_known 2 (some (.object "WordTables$Word")), Cond.fieldLink RX8 27 "WordTables$Vocabulary" "wordCount" "I", Cond.fieldLink RX8 17 "WordTables$Vocabulary" "words" "[LWordTables$Word;", Cond.methodLink RX10 250 yX3_areLike, Cond.instanceMethod yX3_areLike, Cond.selects RX3 yX3_areLike yX3_areLike, Cond.initialized RX3, Cond.code yX3_areLike cX3_areLike 7 (some .boolean), Cond.fieldLink RX3 24 "WordTables$Row" "count" "I", Cond.fieldLink RX3 7 "WordTables$Letters" "cut" "I", Cond.methodLink RX3 29 Lib.Math.min.name, Cond.static Lib.Math.min.name, Cond.initialized "java/lang/Math", Cond.code Lib.Math.min.name Lib.Math.min.code 2 (some .int), Cond.methodLink RX3 35 yX4_byteAt, Cond.instanceMethod yX4_byteAt]
def wsX10_equal_r2 : List Cond := [Cond.selects RX4 yX4_byteAt yX4_byteAt, Cond.initialized RX4, Cond.code yX4_byteAt cX4_byteAt 2 (some .int), Cond.fieldLink RX4 21 "WordTables$Row" "count" "I", Cond.fieldLink RX4 15 "WordTables$Row" "bytes" "[I", Cond.methodLink RX3 39 yX3_folded, Cond.instanceMethod yX3_folded, Cond.selects RX3 yX3_folded yX3_folded, Cond.code yX3_folded cX3_folded 3 (some .int), Cond.fieldLink RX3 13 "WordTables$Letters" "folds" "[I"]
def wsX10_equal : List Cond := .code yX10_equal cX10_equal 5 (some .int) :: ((wsX10_equal_r1 ++ wsX10_equal_r2) ++ wsX100 ++ wsX90 ++ wsX40 ++ wsX80 ++ wsX30)
def wsX10_told : List Cond := .code yX10_told cX10_told 2 (some .int) :: ([.fieldLink RX10 30 "WordTables" "draft" "LWordTables$Row;", .fieldLink RX10 118 "WordTables$Row" "count" "I", .fieldLink RX10 39 "WordTables" "vocabulary" "LWordTables$Vocabulary;", .fieldLink RX10 93 "WordTables$Vocabulary" "wordCount" "I", .fieldLink RX10 97 "WordTables$Vocabulary" "joinCount" "I", .fieldLink RX10 43 "WordTables" "line" "LWordTables$Row;", .fieldLink RX10 79 "WordTables" "tokens" "LWordTables$Tokens;", .fieldLink RX10 254 "WordTables$Tokens" "count" "I", .fieldLink RX10 58 "WordTables" "things" "LWordTables$Things;", .fieldLink RX10 209 "WordTables$Things" "count" "I", .fieldLink RX10 218 "WordTables$Things" "meaningCount" "I"] ++ wsX100 ++ wsX40 ++ wsX80 ++ wsX70 ++ wsX60)
def wsX11_init_r1 : List Cond := [Cond.methodLink RX11 1 objectInit, Cond.instanceMethod objectInit, Cond.code objectInit ⟨#[0xb1]⟩ 1 none, Cond.arrayClass .int, Cond.fieldLink RX11 7 "WordTablesModel" "folds" "[I", Cond.fieldLink RX11 13 "WordTablesModel" "draft" "[I", Cond.fieldLink RX11 16 "WordTablesModel" "letter" "[I", Cond.fieldLink RX11 19 "WordTablesModel" "size" "[I", Cond.fieldLink RX11 22 "WordTablesModel" "language" "[I", Cond.fieldLink RX11 25 "WordTablesModel" "kinds" "[I", Cond.fieldLink RX11 28 "WordTablesModel" "value" "[I", Cond.fieldLink RX11 31 "WordTablesModel" "pluralOf" "[I", Cond.fieldLink RX11 34 "WordTablesModel" "refers" "[I", Cond.fieldLink RX11 37 "WordTablesModel" "joinFirst" "[I", Cond.fieldLink RX11 40 "WordTablesModel" "joinSecond" "[I", Cond.fieldLink RX11 43 "WordTablesModel" "line" "[I", Cond.fieldLink RX11 46 "WordTablesModel" "sort" "[I", Cond.fieldLink RX11 49 "WordTablesModel" "place" "[I", Cond.fieldLink RX11 52 "WordTablesModel" "wide" "[I", Cond.fieldLink RX11 55 "WordTablesModel" "number" "[I", Cond.fieldLink RX11 58 "WordTablesModel" "newSort" "[I", Cond.fieldLink RX11 61 "WordTablesModel" "newPlace" "[I", Cond.fieldLink RX11 64 "WordTablesModel" "newWide" "[I", Cond.fieldLink RX11 67 "WordTablesModel" "newNumber" "[I"]
def wsX11_init_r2 : List Cond := [Cond.fieldLink RX11 70 "WordTablesModel" "kept" "[I", Cond.fieldLink RX11 73 "WordTablesModel" "meaningThing" "[I", Cond.fieldLink RX11 76 "WordTablesModel" "meaningWord" "[I", Cond.fieldLink RX11 79 "WordTablesModel" "meaningFlag" "[I", Cond.fieldLink RX11 82 "WordTablesModel" "cut" "I"]
def wsX11_init : List Cond := .code yX11_init cX11_init 3 none :: ((wsX11_init_r1 ++ wsX11_init_r2) ++ wsX110)
def wsX11_in : List Cond := .code yX11_in cX11_in 3 (some .boolean) :: ([])
def wsX11_isLetter : List Cond := .code yX11_isLetter cX11_isLetter 1 (some .boolean) :: ([.methodLink RX11 86 yX11_in, .static yX11_in, .initialized RX11, .code yX11_in cX11_in 3 (some .boolean)])
def wsX11_isDigit : List Cond := .code yX11_isDigit cX11_isDigit 1 (some .boolean) :: ([.methodLink RX11 86 yX11_in, .static yX11_in, .initialized RX11, .code yX11_in cX11_in 3 (some .boolean)])
def wsX11_folded : List Cond := .code yX11_folded cX11_folded 2 (some .int) :: ([.fieldLink RX11 7 "WordTablesModel" "folds" "[I", .methodLink RX11 86 yX11_in, .static yX11_in, .initialized RX11, .code yX11_in cX11_in 3 (some .boolean)] ++ wsX110)
def wsX11_isWord : List Cond := .code yX11_isWord cX11_isWord 2 (some .boolean) :: ([.fieldLink RX11 90 "WordTablesModel" "words" "I", .methodLink RX11 86 yX11_in, .static yX11_in, .initialized RX11, .code yX11_in cX11_in 3 (some .boolean)] ++ wsX110)
def wsX11_fold : List Cond := .code yX11_fold cX11_fold 4 (some .int) :: ([.fieldLink RX11 90 "WordTablesModel" "words" "I", .fieldLink RX11 93 "WordTablesModel" "joins" "I", .fieldLink RX11 7 "WordTablesModel" "folds" "[I", .methodLink RX11 86 yX11_in, .static yX11_in, .initialized RX11, .code yX11_in cX11_in 3 (some .boolean)] ++ wsX110)
def wsX11_letter : List Cond := .code yX11_letter cX11_letter 2 (some .int) :: ([.fieldLink RX11 100 "WordTablesModel" "drafted" "I", .fieldLink RX11 13 "WordTablesModel" "draft" "[I", .methodLink RX11 96 yX11_isLetter, .static yX11_isLetter, .initialized RX11, .code yX11_isLetter cX11_isLetter 1 (some .boolean), .methodLink RX11 86 yX11_in, .static yX11_in, .code yX11_in cX11_in 3 (some .boolean)] ++ wsX110)
def wsX11_isLike : List Cond := .code yX11_isLike cX11_isLike 9 (some .boolean) :: ([.fieldLink RX11 82 "WordTablesModel" "cut" "I", .fieldLink RX11 19 "WordTablesModel" "size" "[I", .fieldLink RX11 16 "WordTablesModel" "letter" "[I", .methodLink RX11 103 yX11_folded, .instanceMethod yX11_folded, .selects RX11 yX11_folded yX11_folded, .initialized RX11, .code yX11_folded cX11_folded 2 (some .int), .fieldLink RX11 7 "WordTablesModel" "folds" "[I", .methodLink RX11 86 yX11_in, .static yX11_in, .code yX11_in cX11_in 3 (some .boolean)] ++ wsX110)
def wsX11_found : List Cond := .code yX11_found cX11_found 6 (some .int) :: ([.fieldLink RX11 90 "WordTablesModel" "words" "I", .fieldLink RX11 22 "WordTablesModel" "language" "[I", .methodLink RX11 107 yX11_isLike, .instanceMethod yX11_isLike, .selects RX11 yX11_isLike yX11_isLike, .initialized RX11, .code yX11_isLike cX11_isLike 9 (some .boolean), .fieldLink RX11 82 "WordTablesModel" "cut" "I", .fieldLink RX11 19 "WordTablesModel" "size" "[I", .fieldLink RX11 16 "WordTablesModel" "letter" "[I", .methodLink RX11 103 yX11_folded, .instanceMethod yX11_folded, .selects RX11 yX11_folded yX11_folded, .code yX11_folded cX11_folded 2 (some .int), .fieldLink RX11 7 "WordTablesModel" "folds" "[I", .methodLink RX11 86 yX11_in, .static yX11_in, .code yX11_in cX11_in 3 (some .boolean)] ++ wsX110)
def wsX11_lay : List Cond := .code yX11_lay cX11_lay 3 none :: ([.fieldLink RX11 100 "WordTablesModel" "drafted" "I", .fieldLink RX11 16 "WordTablesModel" "letter" "[I", .fieldLink RX11 13 "WordTablesModel" "draft" "[I", .fieldLink RX11 19 "WordTablesModel" "size" "[I"] ++ wsX110)
def wsX11_word_r1 : List Cond := [Cond.fieldLink RX11 100 "WordTablesModel" "drafted" "I", Cond.fieldLink RX11 13 "WordTablesModel" "draft" "[I", Cond.fieldLink RX11 25 "WordTablesModel" "kinds" "[I", Cond.fieldLink RX11 90 "WordTablesModel" "words" "I", Cond.fieldLink RX11 22 "WordTablesModel" "language" "[I", Cond.fieldLink RX11 28 "WordTablesModel" "value" "[I", Cond.fieldLink RX11 31 "WordTablesModel" "pluralOf" "[I", Cond.fieldLink RX11 34 "WordTablesModel" "refers" "[I", Cond.methodLink RX11 86 yX11_in, Cond.static yX11_in, Cond.initialized RX11, Cond.code yX11_in cX11_in 3 (some .boolean), Cond.methodLink RX11 111 yX11_found, Cond.instanceMethod yX11_found, Cond.selects RX11 yX11_found yX11_found, Cond.code yX11_found cX11_found 6 (some .int), Cond.methodLink RX11 107 yX11_isLike, Cond.instanceMethod yX11_isLike, Cond.selects RX11 yX11_isLike yX11_isLike, Cond.code yX11_isLike cX11_isLike 9 (some .boolean), Cond.fieldLink RX11 82 "WordTablesModel" "cut" "I", Cond.fieldLink RX11 19 "WordTablesModel" "size" "[I", Cond.fieldLink RX11 16 "WordTablesModel" "letter" "[I", Cond.methodLink RX11 103 yX11_folded]
def wsX11_word_r2 : List Cond := [Cond.instanceMethod yX11_folded, Cond.selects RX11 yX11_folded yX11_folded, Cond.code yX11_folded cX11_folded 2 (some .int), Cond.fieldLink RX11 7 "WordTablesModel" "folds" "[I", Cond.methodLink RX11 115 yX11_lay, Cond.instanceMethod yX11_lay, Cond.selects RX11 yX11_lay yX11_lay, Cond.code yX11_lay cX11_lay 3 none]
def wsX11_word : List Cond := .code yX11_word cX11_word 4 (some .int) :: ((wsX11_word_r1 ++ wsX11_word_r2) ++ wsX110)
def wsX11_isKind : List Cond := .code yX11_isKind cX11_isKind 3 (some .boolean) :: ([.fieldLink RX11 25 "WordTablesModel" "kinds" "[I"] ++ wsX110)
def wsX11_value : List Cond := .code yX11_value cX11_value 4 (some .int) :: ([.fieldLink RX11 28 "WordTablesModel" "value" "[I", .methodLink RX11 119 yX11_isWord, .instanceMethod yX11_isWord, .selects RX11 yX11_isWord yX11_isWord, .initialized RX11, .code yX11_isWord cX11_isWord 2 (some .boolean), .fieldLink RX11 90 "WordTablesModel" "words" "I", .methodLink RX11 86 yX11_in, .static yX11_in, .code yX11_in cX11_in 3 (some .boolean), .methodLink RX11 122 yX11_isKind, .instanceMethod yX11_isKind, .selects RX11 yX11_isKind yX11_isKind, .code yX11_isKind cX11_isKind 3 (some .boolean), .fieldLink RX11 25 "WordTablesModel" "kinds" "[I"] ++ wsX110)
def wsX11_plural : List Cond := .code yX11_plural cX11_plural 4 (some .int) :: ([.fieldLink RX11 31 "WordTablesModel" "pluralOf" "[I", .methodLink RX11 119 yX11_isWord, .instanceMethod yX11_isWord, .selects RX11 yX11_isWord yX11_isWord, .initialized RX11, .code yX11_isWord cX11_isWord 2 (some .boolean), .fieldLink RX11 90 "WordTablesModel" "words" "I", .methodLink RX11 86 yX11_in, .static yX11_in, .code yX11_in cX11_in 3 (some .boolean)] ++ wsX110)
def wsX11_join : List Cond := .code yX11_join cX11_join 3 (some .int) :: ([.fieldLink RX11 100 "WordTablesModel" "drafted" "I", .fieldLink RX11 93 "WordTablesModel" "joins" "I", .fieldLink RX11 37 "WordTablesModel" "joinFirst" "[I", .fieldLink RX11 40 "WordTablesModel" "joinSecond" "[I", .methodLink RX11 119 yX11_isWord, .instanceMethod yX11_isWord, .selects RX11 yX11_isWord yX11_isWord, .initialized RX11, .code yX11_isWord cX11_isWord 2 (some .boolean), .fieldLink RX11 90 "WordTablesModel" "words" "I", .methodLink RX11 86 yX11_in, .static yX11_in, .code yX11_in cX11_in 3 (some .boolean), .methodLink RX11 115 yX11_lay, .instanceMethod yX11_lay, .selects RX11 yX11_lay yX11_lay, .code yX11_lay cX11_lay 3 none, .fieldLink RX11 16 "WordTablesModel" "letter" "[I", .fieldLink RX11 13 "WordTablesModel" "draft" "[I", .fieldLink RX11 19 "WordTablesModel" "size" "[I"] ++ wsX110)
def wsX11_type : List Cond := .code yX11_type cX11_type 2 (some .int) :: ([.fieldLink RX11 126 "WordTablesModel" "lined" "I", .fieldLink RX11 43 "WordTablesModel" "line" "[I", .methodLink RX11 86 yX11_in, .static yX11_in, .initialized RX11, .code yX11_in cX11_in 3 (some .boolean)] ++ wsX110)
def wsX11_byteAt : List Cond := .code yX11_byteAt cX11_byteAt 2 (some .int) :: ([.fieldLink RX11 126 "WordTablesModel" "lined" "I", .fieldLink RX11 43 "WordTablesModel" "line" "[I"] ++ wsX110)
def wsX11_add : List Cond := .code yX11_add cX11_add 5 none :: ([.fieldLink RX11 129 "WordTablesModel" "news" "I", .fieldLink RX11 132 "WordTablesModel" "isMuch" "Z", .fieldLink RX11 58 "WordTablesModel" "newSort" "[I", .fieldLink RX11 61 "WordTablesModel" "newPlace" "[I", .fieldLink RX11 64 "WordTablesModel" "newWide" "[I", .fieldLink RX11 67 "WordTablesModel" "newNumber" "[I"] ++ wsX110)
def wsX11_readLetters_r1 : List Cond := [Cond.fieldLink RX11 43 "WordTablesModel" "line" "[I", Cond.fieldLink RX11 93 "WordTablesModel" "joins" "I", Cond.fieldLink RX11 37 "WordTablesModel" "joinFirst" "[I", Cond.fieldLink RX11 40 "WordTablesModel" "joinSecond" "[I", Cond.methodLink RX11 136 yX11_byteAt, Cond.instanceMethod yX11_byteAt, Cond.selects RX11 yX11_byteAt yX11_byteAt, Cond.initialized RX11, Cond.code yX11_byteAt cX11_byteAt 2 (some .int), Cond.fieldLink RX11 126 "WordTablesModel" "lined" "I", Cond.methodLink RX11 96 yX11_isLetter, Cond.static yX11_isLetter, Cond.code yX11_isLetter cX11_isLetter 1 (some .boolean), Cond.methodLink RX11 86 yX11_in, Cond.static yX11_in, Cond.code yX11_in cX11_in 3 (some .boolean), Cond.methodLink RX11 111 yX11_found, Cond.instanceMethod yX11_found, Cond.selects RX11 yX11_found yX11_found, Cond.code yX11_found cX11_found 6 (some .int), Cond.fieldLink RX11 90 "WordTablesModel" "words" "I", Cond.fieldLink RX11 22 "WordTablesModel" "language" "[I", Cond.methodLink RX11 107 yX11_isLike, Cond.instanceMethod yX11_isLike]
def wsX11_readLetters_r2 : List Cond := [Cond.selects RX11 yX11_isLike yX11_isLike, Cond.code yX11_isLike cX11_isLike 9 (some .boolean), Cond.fieldLink RX11 82 "WordTablesModel" "cut" "I", Cond.fieldLink RX11 19 "WordTablesModel" "size" "[I", Cond.fieldLink RX11 16 "WordTablesModel" "letter" "[I", Cond.methodLink RX11 103 yX11_folded, Cond.instanceMethod yX11_folded, Cond.selects RX11 yX11_folded yX11_folded, Cond.code yX11_folded cX11_folded 2 (some .int), Cond.fieldLink RX11 7 "WordTablesModel" "folds" "[I", Cond.methodLink RX11 139 yX11_add, Cond.instanceMethod yX11_add, Cond.selects RX11 yX11_add yX11_add, Cond.code yX11_add cX11_add 5 none, Cond.fieldLink RX11 129 "WordTablesModel" "news" "I", Cond.fieldLink RX11 132 "WordTablesModel" "isMuch" "Z", Cond.fieldLink RX11 58 "WordTablesModel" "newSort" "[I", Cond.fieldLink RX11 61 "WordTablesModel" "newPlace" "[I", Cond.fieldLink RX11 64 "WordTablesModel" "newWide" "[I", Cond.fieldLink RX11 67 "WordTablesModel" "newNumber" "[I"]
def wsX11_readLetters : List Cond := .code yX11_readLetters cX11_readLetters 6 (some .int) :: ((wsX11_readLetters_r1 ++ wsX11_readLetters_r2) ++ wsX110)
def wsX11_numberOf : List Cond := .code yX11_numberOf cX11_numberOf 5 (some .int) :: ([.fieldLink RX11 43 "WordTablesModel" "line" "[I", .constant RX11 143 (99999)] ++ wsX110)
def wsX11_readTime_r1 : List Cond := [Cond.methodLink RX11 136 yX11_byteAt, Cond.instanceMethod yX11_byteAt, Cond.selects RX11 yX11_byteAt yX11_byteAt, Cond.initialized RX11, Cond.code yX11_byteAt cX11_byteAt 2 (some .int), Cond.fieldLink RX11 126 "WordTablesModel" "lined" "I", Cond.fieldLink RX11 43 "WordTablesModel" "line" "[I", Cond.methodLink RX11 96 yX11_isLetter, Cond.static yX11_isLetter, Cond.code yX11_isLetter cX11_isLetter 1 (some .boolean), Cond.methodLink RX11 86 yX11_in, Cond.static yX11_in, Cond.code yX11_in cX11_in 3 (some .boolean), Cond.methodLink RX11 103 yX11_folded, Cond.instanceMethod yX11_folded, Cond.selects RX11 yX11_folded yX11_folded, Cond.code yX11_folded cX11_folded 2 (some .int), Cond.fieldLink RX11 7 "WordTablesModel" "folds" "[I", Cond.methodLink RX11 147 yX11_numberOf, Cond.instanceMethod yX11_numberOf, Cond.selects RX11 yX11_numberOf yX11_numberOf, Cond.code yX11_numberOf cX11_numberOf 5 (some .int), Cond.constant RX11 143 (99999), Cond.methodLink RX11 139 yX11_add]
def wsX11_readTime_r2 : List Cond := [Cond.instanceMethod yX11_add, Cond.selects RX11 yX11_add yX11_add, Cond.code yX11_add cX11_add 5 none, Cond.fieldLink RX11 129 "WordTablesModel" "news" "I", Cond.fieldLink RX11 132 "WordTablesModel" "isMuch" "Z", Cond.fieldLink RX11 58 "WordTablesModel" "newSort" "[I", Cond.fieldLink RX11 61 "WordTablesModel" "newPlace" "[I", Cond.fieldLink RX11 64 "WordTablesModel" "newWide" "[I", Cond.fieldLink RX11 67 "WordTablesModel" "newNumber" "[I"]
def wsX11_readTime : List Cond := .code yX11_readTime cX11_readTime 8 (some .int) :: ((wsX11_readTime_r1 ++ wsX11_readTime_r2) ++ wsX110)
def wsX11_readDigits_r1 : List Cond := [Cond.methodLink RX11 136 yX11_byteAt, Cond.instanceMethod yX11_byteAt, Cond.selects RX11 yX11_byteAt yX11_byteAt, Cond.initialized RX11, Cond.code yX11_byteAt cX11_byteAt 2 (some .int), Cond.fieldLink RX11 126 "WordTablesModel" "lined" "I", Cond.fieldLink RX11 43 "WordTablesModel" "line" "[I", Cond.methodLink RX11 144 yX11_isDigit, Cond.static yX11_isDigit, Cond.code yX11_isDigit cX11_isDigit 1 (some .boolean), Cond.methodLink RX11 86 yX11_in, Cond.static yX11_in, Cond.code yX11_in cX11_in 3 (some .boolean), Cond.methodLink RX11 147 yX11_numberOf, Cond.instanceMethod yX11_numberOf, Cond.selects RX11 yX11_numberOf yX11_numberOf, Cond.code yX11_numberOf cX11_numberOf 5 (some .int), Cond.constant RX11 143 (99999), Cond.methodLink RX11 151 yX11_readTime, Cond.instanceMethod yX11_readTime, Cond.selects RX11 yX11_readTime yX11_readTime, Cond.code yX11_readTime cX11_readTime 8 (some .int), Cond.methodLink RX11 96 yX11_isLetter, Cond.static yX11_isLetter]
def wsX11_readDigits_r2 : List Cond := [Cond.code yX11_isLetter cX11_isLetter 1 (some .boolean), Cond.methodLink RX11 103 yX11_folded, Cond.instanceMethod yX11_folded, Cond.selects RX11 yX11_folded yX11_folded, Cond.code yX11_folded cX11_folded 2 (some .int), Cond.fieldLink RX11 7 "WordTablesModel" "folds" "[I", Cond.methodLink RX11 139 yX11_add, Cond.instanceMethod yX11_add, Cond.selects RX11 yX11_add yX11_add, Cond.code yX11_add cX11_add 5 none, Cond.fieldLink RX11 129 "WordTablesModel" "news" "I", Cond.fieldLink RX11 132 "WordTablesModel" "isMuch" "Z", Cond.fieldLink RX11 58 "WordTablesModel" "newSort" "[I", Cond.fieldLink RX11 61 "WordTablesModel" "newPlace" "[I", Cond.fieldLink RX11 64 "WordTablesModel" "newWide" "[I", Cond.fieldLink RX11 67 "WordTablesModel" "newNumber" "[I"]
def wsX11_readDigits : List Cond := .code yX11_readDigits cX11_readDigits 4 (some .int) :: ((wsX11_readDigits_r1 ++ wsX11_readDigits_r2) ++ wsX110)
def wsX11_readQuoted : List Cond := .code yX11_readQuoted cX11_readQuoted 3 (some .int) :: ([.fieldLink RX11 126 "WordTablesModel" "lined" "I", .fieldLink RX11 43 "WordTablesModel" "line" "[I", .methodLink RX11 139 yX11_add, .instanceMethod yX11_add, .selects RX11 yX11_add yX11_add, .initialized RX11, .code yX11_add cX11_add 5 none, .fieldLink RX11 129 "WordTablesModel" "news" "I", .fieldLink RX11 132 "WordTablesModel" "isMuch" "Z", .fieldLink RX11 58 "WordTablesModel" "newSort" "[I", .fieldLink RX11 61 "WordTablesModel" "newPlace" "[I", .fieldLink RX11 64 "WordTablesModel" "newWide" "[I", .fieldLink RX11 67 "WordTablesModel" "newNumber" "[I"] ++ wsX110)
def wsX11_isStop : List Cond := .code yX11_isStop cX11_isStop 1 (some .boolean) :: ([])
def wsX11_isOther : List Cond := .code yX11_isOther cX11_isOther 1 (some .boolean) :: ([.methodLink RX11 96 yX11_isLetter, .static yX11_isLetter, .initialized RX11, .code yX11_isLetter cX11_isLetter 1 (some .boolean), .methodLink RX11 86 yX11_in, .static yX11_in, .code yX11_in cX11_in 3 (some .boolean), .methodLink RX11 144 yX11_isDigit, .static yX11_isDigit, .code yX11_isDigit cX11_isDigit 1 (some .boolean), .methodLink RX11 155 yX11_isStop, .static yX11_isStop, .code yX11_isStop cX11_isStop 1 (some .boolean)])
def wsX11_read_r1 : List Cond := [Cond.fieldLink RX11 126 "WordTablesModel" "lined" "I", Cond.fieldLink RX11 129 "WordTablesModel" "news" "I", Cond.fieldLink RX11 132 "WordTablesModel" "isMuch" "Z", Cond.fieldLink RX11 43 "WordTablesModel" "line" "[I", Cond.fieldLink RX11 170 "WordTablesModel" "tokens" "I", Cond.fieldLink RX11 46 "WordTablesModel" "sort" "[I", Cond.fieldLink RX11 58 "WordTablesModel" "newSort" "[I", Cond.fieldLink RX11 49 "WordTablesModel" "place" "[I", Cond.fieldLink RX11 61 "WordTablesModel" "newPlace" "[I", Cond.fieldLink RX11 52 "WordTablesModel" "wide" "[I", Cond.fieldLink RX11 64 "WordTablesModel" "newWide" "[I", Cond.fieldLink RX11 55 "WordTablesModel" "number" "[I", Cond.fieldLink RX11 67 "WordTablesModel" "newNumber" "[I", Cond.fieldLink RX11 70 "WordTablesModel" "kept" "[I", Cond.methodLink RX11 86 yX11_in, Cond.static yX11_in, Cond.initialized RX11, Cond.code yX11_in cX11_in 3 (some .boolean), Cond.methodLink RX11 96 yX11_isLetter, Cond.static yX11_isLetter, Cond.code yX11_isLetter cX11_isLetter 1 (some .boolean), Cond.methodLink RX11 158 yX11_readLetters, Cond.instanceMethod yX11_readLetters, Cond.selects RX11 yX11_readLetters yX11_readLetters]
def wsX11_read_r2 : List Cond := [Cond.code yX11_readLetters cX11_readLetters 6 (some .int), Cond.fieldLink RX11 93 "WordTablesModel" "joins" "I", Cond.fieldLink RX11 37 "WordTablesModel" "joinFirst" "[I", Cond.fieldLink RX11 40 "WordTablesModel" "joinSecond" "[I", Cond.methodLink RX11 136 yX11_byteAt, Cond.instanceMethod yX11_byteAt, Cond.selects RX11 yX11_byteAt yX11_byteAt, Cond.code yX11_byteAt cX11_byteAt 2 (some .int), Cond.methodLink RX11 111 yX11_found, Cond.instanceMethod yX11_found, Cond.selects RX11 yX11_found yX11_found, Cond.code yX11_found cX11_found 6 (some .int), Cond.fieldLink RX11 90 "WordTablesModel" "words" "I", Cond.fieldLink RX11 22 "WordTablesModel" "language" "[I", Cond.methodLink RX11 107 yX11_isLike, Cond.instanceMethod yX11_isLike, Cond.selects RX11 yX11_isLike yX11_isLike, Cond.code yX11_isLike cX11_isLike 9 (some .boolean), Cond.fieldLink RX11 82 "WordTablesModel" "cut" "I", Cond.fieldLink RX11 19 "WordTablesModel" "size" "[I", Cond.fieldLink RX11 16 "WordTablesModel" "letter" "[I", Cond.methodLink RX11 103 yX11_folded, Cond.instanceMethod yX11_folded, Cond.selects RX11 yX11_folded yX11_folded]
def wsX11_read_r3 : List Cond := [Cond.code yX11_folded cX11_folded 2 (some .int), Cond.fieldLink RX11 7 "WordTablesModel" "folds" "[I", Cond.methodLink RX11 139 yX11_add, Cond.instanceMethod yX11_add, Cond.selects RX11 yX11_add yX11_add, Cond.code yX11_add cX11_add 5 none, Cond.methodLink RX11 144 yX11_isDigit, Cond.static yX11_isDigit, Cond.code yX11_isDigit cX11_isDigit 1 (some .boolean), Cond.methodLink RX11 161 yX11_readDigits, Cond.instanceMethod yX11_readDigits, Cond.selects RX11 yX11_readDigits yX11_readDigits, Cond.code yX11_readDigits cX11_readDigits 4 (some .int), Cond.methodLink RX11 147 yX11_numberOf, Cond.instanceMethod yX11_numberOf, Cond.selects RX11 yX11_numberOf yX11_numberOf, Cond.code yX11_numberOf cX11_numberOf 5 (some .int), Cond.constant RX11 143 (99999), Cond.methodLink RX11 151 yX11_readTime, Cond.instanceMethod yX11_readTime, Cond.selects RX11 yX11_readTime yX11_readTime, Cond.code yX11_readTime cX11_readTime 8 (some .int), Cond.methodLink RX11 164 yX11_readQuoted, Cond.instanceMethod yX11_readQuoted]
def wsX11_read_r4 : List Cond := [Cond.selects RX11 yX11_readQuoted yX11_readQuoted, Cond.code yX11_readQuoted cX11_readQuoted 3 (some .int), Cond.methodLink RX11 155 yX11_isStop, Cond.static yX11_isStop, Cond.code yX11_isStop cX11_isStop 1 (some .boolean), Cond.methodLink RX11 167 yX11_isOther, Cond.static yX11_isOther, Cond.code yX11_isOther cX11_isOther 1 (some .boolean)]
def wsX11_read : List Cond := .code yX11_read cX11_read 5 (some .int) :: ((wsX11_read_r1 ++ (wsX11_read_r2 ++ (wsX11_read_r3 ++ wsX11_read_r4))) ++ wsX110)
def wsX11_isToken : List Cond := .code yX11_isToken cX11_isToken 2 (some .boolean) :: ([.fieldLink RX11 170 "WordTablesModel" "tokens" "I", .methodLink RX11 86 yX11_in, .static yX11_in, .initialized RX11, .code yX11_in cX11_in 3 (some .boolean)] ++ wsX110)
def wsX11_token : List Cond := .code yX11_token cX11_token 3 (some .int) :: ([.fieldLink RX11 46 "WordTablesModel" "sort" "[I", .fieldLink RX11 49 "WordTablesModel" "place" "[I", .fieldLink RX11 52 "WordTablesModel" "wide" "[I", .fieldLink RX11 55 "WordTablesModel" "number" "[I", .fieldLink RX11 25 "WordTablesModel" "kinds" "[I", .methodLink RX11 173 yX11_isToken, .instanceMethod yX11_isToken, .selects RX11 yX11_isToken yX11_isToken, .initialized RX11, .code yX11_isToken cX11_isToken 2 (some .boolean), .fieldLink RX11 170 "WordTablesModel" "tokens" "I", .methodLink RX11 86 yX11_in, .static yX11_in, .code yX11_in cX11_in 3 (some .boolean)] ++ wsX110)
def wsX11_at : List Cond := .code yX11_at cX11_at 3 (some .int) :: ([.fieldLink RX11 52 "WordTablesModel" "wide" "[I", .fieldLink RX11 70 "WordTablesModel" "kept" "[I", .fieldLink RX11 49 "WordTablesModel" "place" "[I", .methodLink RX11 173 yX11_isToken, .instanceMethod yX11_isToken, .selects RX11 yX11_isToken yX11_isToken, .initialized RX11, .code yX11_isToken cX11_isToken 2 (some .boolean), .fieldLink RX11 170 "WordTablesModel" "tokens" "I", .methodLink RX11 86 yX11_in, .static yX11_in, .code yX11_in cX11_in 3 (some .boolean)] ++ wsX110)
def wsX11_isNumberWord : List Cond := .code yX11_isNumberWord cX11_isNumberWord 2 (some .boolean) :: ([.fieldLink RX11 46 "WordTablesModel" "sort" "[I", .fieldLink RX11 55 "WordTablesModel" "number" "[I", .methodLink RX11 122 yX11_isKind, .instanceMethod yX11_isKind, .selects RX11 yX11_isKind yX11_isKind, .initialized RX11, .code yX11_isKind cX11_isKind 3 (some .boolean), .fieldLink RX11 25 "WordTablesModel" "kinds" "[I"] ++ wsX110)
def wsX11_amountAt : List Cond := .code yX11_amountAt cX11_amountAt 8 (some .int) :: ([.fieldLink RX11 176 "WordTablesModel" "amountIs" "I", .fieldLink RX11 46 "WordTablesModel" "sort" "[I", .fieldLink RX11 55 "WordTablesModel" "number" "[I", .fieldLink RX11 28 "WordTablesModel" "value" "[I", .fieldLink RX11 170 "WordTablesModel" "tokens" "I", .methodLink RX11 179 yX11_isNumberWord, .instanceMethod yX11_isNumberWord, .selects RX11 yX11_isNumberWord yX11_isNumberWord, .initialized RX11, .code yX11_isNumberWord cX11_isNumberWord 2 (some .boolean), .methodLink RX11 122 yX11_isKind, .instanceMethod yX11_isKind, .selects RX11 yX11_isKind yX11_isKind, .code yX11_isKind cX11_isKind 3 (some .boolean), .fieldLink RX11 25 "WordTablesModel" "kinds" "[I", .methodLink RX11 86 yX11_in, .static yX11_in, .code yX11_in cX11_in 3 (some .boolean)] ++ wsX110)
def wsX11_amount_r1 : List Cond := [Cond.fieldLink RX11 176 "WordTablesModel" "amountIs" "I", Cond.methodLink RX11 173 yX11_isToken, Cond.instanceMethod yX11_isToken, Cond.selects RX11 yX11_isToken yX11_isToken, Cond.initialized RX11, Cond.code yX11_isToken cX11_isToken 2 (some .boolean), Cond.fieldLink RX11 170 "WordTablesModel" "tokens" "I", Cond.methodLink RX11 86 yX11_in, Cond.static yX11_in, Cond.code yX11_in cX11_in 3 (some .boolean), Cond.methodLink RX11 182 yX11_amountAt, Cond.instanceMethod yX11_amountAt, Cond.selects RX11 yX11_amountAt yX11_amountAt, Cond.code yX11_amountAt cX11_amountAt 8 (some .int), Cond.fieldLink RX11 46 "WordTablesModel" "sort" "[I", Cond.fieldLink RX11 55 "WordTablesModel" "number" "[I", Cond.fieldLink RX11 28 "WordTablesModel" "value" "[I", Cond.methodLink RX11 179 yX11_isNumberWord, Cond.instanceMethod yX11_isNumberWord, Cond.selects RX11 yX11_isNumberWord yX11_isNumberWord, Cond.code yX11_isNumberWord cX11_isNumberWord 2 (some .boolean), Cond.methodLink RX11 122 yX11_isKind, Cond.instanceMethod yX11_isKind, Cond.selects RX11 yX11_isKind yX11_isKind]
def wsX11_amount_r2 : List Cond := [Cond.code yX11_isKind cX11_isKind 3 (some .boolean), Cond.fieldLink RX11 25 "WordTablesModel" "kinds" "[I"]
def wsX11_amount : List Cond := .code yX11_amount cX11_amount 2 (some .int) :: ((wsX11_amount_r1 ++ wsX11_amount_r2) ++ wsX110)
def wsX11_amountLength_r1 : List Cond := [Cond.methodLink RX11 173 yX11_isToken, Cond.instanceMethod yX11_isToken, Cond.selects RX11 yX11_isToken yX11_isToken, Cond.initialized RX11, Cond.code yX11_isToken cX11_isToken 2 (some .boolean), Cond.fieldLink RX11 170 "WordTablesModel" "tokens" "I", Cond.methodLink RX11 86 yX11_in, Cond.static yX11_in, Cond.code yX11_in cX11_in 3 (some .boolean), Cond.methodLink RX11 182 yX11_amountAt, Cond.instanceMethod yX11_amountAt, Cond.selects RX11 yX11_amountAt yX11_amountAt, Cond.code yX11_amountAt cX11_amountAt 8 (some .int), Cond.fieldLink RX11 176 "WordTablesModel" "amountIs" "I", Cond.fieldLink RX11 46 "WordTablesModel" "sort" "[I", Cond.fieldLink RX11 55 "WordTablesModel" "number" "[I", Cond.fieldLink RX11 28 "WordTablesModel" "value" "[I", Cond.methodLink RX11 179 yX11_isNumberWord, Cond.instanceMethod yX11_isNumberWord, Cond.selects RX11 yX11_isNumberWord yX11_isNumberWord, Cond.code yX11_isNumberWord cX11_isNumberWord 2 (some .boolean), Cond.methodLink RX11 122 yX11_isKind, Cond.instanceMethod yX11_isKind, Cond.selects RX11 yX11_isKind yX11_isKind]
def wsX11_amountLength_r2 : List Cond := [Cond.code yX11_isKind cX11_isKind 3 (some .boolean), Cond.fieldLink RX11 25 "WordTablesModel" "kinds" "[I"]
def wsX11_amountLength : List Cond := .code yX11_amountLength cX11_amountLength 2 (some .int) :: ((wsX11_amountLength_r1 ++ wsX11_amountLength_r2) ++ wsX110)
def wsX11_thing : List Cond := .code yX11_thing cX11_thing 1 (some .int) :: ([.fieldLink RX11 185 "WordTablesModel" "things" "I"] ++ wsX110)
def wsX11_means : List Cond := .code yX11_means cX11_means 4 (some .int) :: ([.fieldLink RX11 185 "WordTablesModel" "things" "I", .fieldLink RX11 188 "WordTablesModel" "meanings" "I", .fieldLink RX11 73 "WordTablesModel" "meaningThing" "[I", .fieldLink RX11 76 "WordTablesModel" "meaningWord" "[I", .fieldLink RX11 79 "WordTablesModel" "meaningFlag" "[I", .methodLink RX11 86 yX11_in, .static yX11_in, .initialized RX11, .code yX11_in cX11_in 3 (some .boolean), .methodLink RX11 119 yX11_isWord, .instanceMethod yX11_isWord, .selects RX11 yX11_isWord yX11_isWord, .code yX11_isWord cX11_isWord 2 (some .boolean), .fieldLink RX11 90 "WordTablesModel" "words" "I"] ++ wsX110)
def wsX11_flag : List Cond := .code yX11_flag cX11_flag 4 (some .int) :: ([.fieldLink RX11 191 "WordTablesModel" "flags" "I", .methodLink RX11 86 yX11_in, .static yX11_in, .initialized RX11, .code yX11_in cX11_in 3 (some .boolean)] ++ wsX110)
def wsX11_refer : List Cond := .code yX11_refer cX11_refer 4 (some .int) :: ([.fieldLink RX11 185 "WordTablesModel" "things" "I", .fieldLink RX11 34 "WordTablesModel" "refers" "[I", .methodLink RX11 119 yX11_isWord, .instanceMethod yX11_isWord, .selects RX11 yX11_isWord yX11_isWord, .initialized RX11, .code yX11_isWord cX11_isWord 2 (some .boolean), .fieldLink RX11 90 "WordTablesModel" "words" "I", .methodLink RX11 86 yX11_in, .static yX11_in, .code yX11_in cX11_in 3 (some .boolean), .methodLink RX11 122 yX11_isKind, .instanceMethod yX11_isKind, .selects RX11 yX11_isKind yX11_isKind, .code yX11_isKind cX11_isKind 3 (some .boolean), .fieldLink RX11 25 "WordTablesModel" "kinds" "[I"] ++ wsX110)
def wsX11_meantBy : List Cond := .code yX11_meantBy cX11_meantBy 6 (some .int) :: ([.fieldLink RX11 46 "WordTablesModel" "sort" "[I", .fieldLink RX11 55 "WordTablesModel" "number" "[I", .fieldLink RX11 34 "WordTablesModel" "refers" "[I", .fieldLink RX11 188 "WordTablesModel" "meanings" "I", .fieldLink RX11 79 "WordTablesModel" "meaningFlag" "[I", .fieldLink RX11 191 "WordTablesModel" "flags" "I", .fieldLink RX11 76 "WordTablesModel" "meaningWord" "[I", .fieldLink RX11 31 "WordTablesModel" "pluralOf" "[I", .fieldLink RX11 73 "WordTablesModel" "meaningThing" "[I", .methodLink RX11 122 yX11_isKind, .instanceMethod yX11_isKind, .selects RX11 yX11_isKind yX11_isKind, .initialized RX11, .code yX11_isKind cX11_isKind 3 (some .boolean), .fieldLink RX11 25 "WordTablesModel" "kinds" "[I"] ++ wsX110)
def wsX11_meant_r1 : List Cond := [Cond.methodLink RX11 173 yX11_isToken, Cond.instanceMethod yX11_isToken, Cond.selects RX11 yX11_isToken yX11_isToken, Cond.initialized RX11, Cond.code yX11_isToken cX11_isToken 2 (some .boolean), Cond.fieldLink RX11 170 "WordTablesModel" "tokens" "I", Cond.methodLink RX11 86 yX11_in, Cond.static yX11_in, Cond.code yX11_in cX11_in 3 (some .boolean), Cond.methodLink RX11 194 yX11_meantBy, Cond.instanceMethod yX11_meantBy, Cond.selects RX11 yX11_meantBy yX11_meantBy, Cond.code yX11_meantBy cX11_meantBy 6 (some .int), Cond.fieldLink RX11 46 "WordTablesModel" "sort" "[I", Cond.fieldLink RX11 55 "WordTablesModel" "number" "[I", Cond.fieldLink RX11 34 "WordTablesModel" "refers" "[I", Cond.fieldLink RX11 188 "WordTablesModel" "meanings" "I", Cond.fieldLink RX11 79 "WordTablesModel" "meaningFlag" "[I", Cond.fieldLink RX11 191 "WordTablesModel" "flags" "I", Cond.fieldLink RX11 76 "WordTablesModel" "meaningWord" "[I", Cond.fieldLink RX11 31 "WordTablesModel" "pluralOf" "[I", Cond.fieldLink RX11 73 "WordTablesModel" "meaningThing" "[I", Cond.methodLink RX11 122 yX11_isKind, Cond.instanceMethod yX11_isKind]
def wsX11_meant_r2 : List Cond := [Cond.selects RX11 yX11_isKind yX11_isKind, Cond.code yX11_isKind cX11_isKind 3 (some .boolean), Cond.fieldLink RX11 25 "WordTablesModel" "kinds" "[I"]
def wsX11_meant : List Cond := .code yX11_meant cX11_meant 2 (some .int) :: ((wsX11_meant_r1 ++ wsX11_meant_r2) ++ wsX110)
def wsX11_phraseAt : List Cond := .code yX11_phraseAt cX11_phraseAt 4 (some .int) :: ([.fieldLink RX11 197 "WordTablesModel" "phraseBits" "I", .fieldLink RX11 170 "WordTablesModel" "tokens" "I", .fieldLink RX11 46 "WordTablesModel" "sort" "[I", .fieldLink RX11 25 "WordTablesModel" "kinds" "[I", .fieldLink RX11 55 "WordTablesModel" "number" "[I", .methodLink RX11 194 yX11_meantBy, .instanceMethod yX11_meantBy, .selects RX11 yX11_meantBy yX11_meantBy, .initialized RX11, .code yX11_meantBy cX11_meantBy 6 (some .int), .fieldLink RX11 34 "WordTablesModel" "refers" "[I", .fieldLink RX11 188 "WordTablesModel" "meanings" "I", .fieldLink RX11 79 "WordTablesModel" "meaningFlag" "[I", .fieldLink RX11 191 "WordTablesModel" "flags" "I", .fieldLink RX11 76 "WordTablesModel" "meaningWord" "[I", .fieldLink RX11 31 "WordTablesModel" "pluralOf" "[I", .fieldLink RX11 73 "WordTablesModel" "meaningThing" "[I", .methodLink RX11 122 yX11_isKind, .instanceMethod yX11_isKind, .selects RX11 yX11_isKind yX11_isKind, .code yX11_isKind cX11_isKind 3 (some .boolean)] ++ wsX110)
def wsX11_phrase_r1 : List Cond := [Cond.fieldLink RX11 197 "WordTablesModel" "phraseBits" "I", Cond.methodLink RX11 173 yX11_isToken, Cond.instanceMethod yX11_isToken, Cond.selects RX11 yX11_isToken yX11_isToken, Cond.initialized RX11, Cond.code yX11_isToken cX11_isToken 2 (some .boolean), Cond.fieldLink RX11 170 "WordTablesModel" "tokens" "I", Cond.methodLink RX11 86 yX11_in, Cond.static yX11_in, Cond.code yX11_in cX11_in 3 (some .boolean), Cond.methodLink RX11 200 yX11_phraseAt, Cond.instanceMethod yX11_phraseAt, Cond.selects RX11 yX11_phraseAt yX11_phraseAt, Cond.code yX11_phraseAt cX11_phraseAt 4 (some .int), Cond.fieldLink RX11 46 "WordTablesModel" "sort" "[I", Cond.fieldLink RX11 25 "WordTablesModel" "kinds" "[I", Cond.fieldLink RX11 55 "WordTablesModel" "number" "[I", Cond.methodLink RX11 194 yX11_meantBy, Cond.instanceMethod yX11_meantBy, Cond.selects RX11 yX11_meantBy yX11_meantBy, Cond.code yX11_meantBy cX11_meantBy 6 (some .int), Cond.fieldLink RX11 34 "WordTablesModel" "refers" "[I", Cond.fieldLink RX11 188 "WordTablesModel" "meanings" "I", Cond.fieldLink RX11 79 "WordTablesModel" "meaningFlag" "[I"]
def wsX11_phrase_r2 : List Cond := [Cond.fieldLink RX11 191 "WordTablesModel" "flags" "I", Cond.fieldLink RX11 76 "WordTablesModel" "meaningWord" "[I", Cond.fieldLink RX11 31 "WordTablesModel" "pluralOf" "[I", Cond.fieldLink RX11 73 "WordTablesModel" "meaningThing" "[I", Cond.methodLink RX11 122 yX11_isKind, Cond.instanceMethod yX11_isKind, Cond.selects RX11 yX11_isKind yX11_isKind, Cond.code yX11_isKind cX11_isKind 3 (some .boolean)]
def wsX11_phrase : List Cond := .code yX11_phrase cX11_phrase 2 (some .int) :: ((wsX11_phrase_r1 ++ wsX11_phrase_r2) ++ wsX110)
def wsX11_phraseLength_r1 : List Cond := [Cond.methodLink RX11 173 yX11_isToken, Cond.instanceMethod yX11_isToken, Cond.selects RX11 yX11_isToken yX11_isToken, Cond.initialized RX11, Cond.code yX11_isToken cX11_isToken 2 (some .boolean), Cond.fieldLink RX11 170 "WordTablesModel" "tokens" "I", Cond.methodLink RX11 86 yX11_in, Cond.static yX11_in, Cond.code yX11_in cX11_in 3 (some .boolean), Cond.methodLink RX11 200 yX11_phraseAt, Cond.instanceMethod yX11_phraseAt, Cond.selects RX11 yX11_phraseAt yX11_phraseAt, Cond.code yX11_phraseAt cX11_phraseAt 4 (some .int), Cond.fieldLink RX11 197 "WordTablesModel" "phraseBits" "I", Cond.fieldLink RX11 46 "WordTablesModel" "sort" "[I", Cond.fieldLink RX11 25 "WordTablesModel" "kinds" "[I", Cond.fieldLink RX11 55 "WordTablesModel" "number" "[I", Cond.methodLink RX11 194 yX11_meantBy, Cond.instanceMethod yX11_meantBy, Cond.selects RX11 yX11_meantBy yX11_meantBy, Cond.code yX11_meantBy cX11_meantBy 6 (some .int), Cond.fieldLink RX11 34 "WordTablesModel" "refers" "[I", Cond.fieldLink RX11 188 "WordTablesModel" "meanings" "I", Cond.fieldLink RX11 79 "WordTablesModel" "meaningFlag" "[I"]
def wsX11_phraseLength_r2 : List Cond := [Cond.fieldLink RX11 191 "WordTablesModel" "flags" "I", Cond.fieldLink RX11 76 "WordTablesModel" "meaningWord" "[I", Cond.fieldLink RX11 31 "WordTablesModel" "pluralOf" "[I", Cond.fieldLink RX11 73 "WordTablesModel" "meaningThing" "[I", Cond.methodLink RX11 122 yX11_isKind, Cond.instanceMethod yX11_isKind, Cond.selects RX11 yX11_isKind yX11_isKind, Cond.code yX11_isKind cX11_isKind 3 (some .boolean)]
def wsX11_phraseLength : List Cond := .code yX11_phraseLength cX11_phraseLength 2 (some .int) :: ((wsX11_phraseLength_r1 ++ wsX11_phraseLength_r2) ++ wsX110)
def wsX11_about : List Cond := .code yX11_about cX11_about 3 (some .int) :: ([.fieldLink RX11 22 "WordTablesModel" "language" "[I", .fieldLink RX11 25 "WordTablesModel" "kinds" "[I", .fieldLink RX11 28 "WordTablesModel" "value" "[I", .fieldLink RX11 31 "WordTablesModel" "pluralOf" "[I", .fieldLink RX11 19 "WordTablesModel" "size" "[I", .fieldLink RX11 34 "WordTablesModel" "refers" "[I", .methodLink RX11 119 yX11_isWord, .instanceMethod yX11_isWord, .selects RX11 yX11_isWord yX11_isWord, .initialized RX11, .code yX11_isWord cX11_isWord 2 (some .boolean), .fieldLink RX11 90 "WordTablesModel" "words" "I", .methodLink RX11 86 yX11_in, .static yX11_in, .code yX11_in cX11_in 3 (some .boolean)] ++ wsX110)
def wsX11_equal : List Cond := .code yX11_equal cX11_equal 3 (some .int) :: ([.fieldLink RX11 16 "WordTablesModel" "letter" "[I", .fieldLink RX11 19 "WordTablesModel" "size" "[I", .methodLink RX11 119 yX11_isWord, .instanceMethod yX11_isWord, .selects RX11 yX11_isWord yX11_isWord, .initialized RX11, .code yX11_isWord cX11_isWord 2 (some .boolean), .fieldLink RX11 90 "WordTablesModel" "words" "I", .methodLink RX11 86 yX11_in, .static yX11_in, .code yX11_in cX11_in 3 (some .boolean), .methodLink RX11 107 yX11_isLike, .instanceMethod yX11_isLike, .selects RX11 yX11_isLike yX11_isLike, .code yX11_isLike cX11_isLike 9 (some .boolean), .fieldLink RX11 82 "WordTablesModel" "cut" "I", .methodLink RX11 103 yX11_folded, .instanceMethod yX11_folded, .selects RX11 yX11_folded yX11_folded, .code yX11_folded cX11_folded 2 (some .int), .fieldLink RX11 7 "WordTablesModel" "folds" "[I"] ++ wsX110)
def wsX11_told : List Cond := .code yX11_told cX11_told 2 (some .int) :: ([.fieldLink RX11 100 "WordTablesModel" "drafted" "I", .fieldLink RX11 90 "WordTablesModel" "words" "I", .fieldLink RX11 93 "WordTablesModel" "joins" "I", .fieldLink RX11 126 "WordTablesModel" "lined" "I", .fieldLink RX11 170 "WordTablesModel" "tokens" "I", .fieldLink RX11 185 "WordTablesModel" "things" "I", .fieldLink RX11 188 "WordTablesModel" "meanings" "I"] ++ wsX110)
def wsJ9_max_7cf53 : List Cond := .code yJ9_max_7cf53 cJ9_max_7cf53 2 (some .int) :: ([])
def wsJ9_min_7cf53 : List Cond := .code yJ9_min_7cf53 cJ9_min_7cf53 2 (some .int) :: ([])
def wsL_cell : List Cond := .code yL_cell cL_cell 2 (some .int) :: ([])
abbrev vwCl : List vw_C := [(RX0, TX0, 2), (RX1, TX1, 5), (RX2, TX2, 3), (RX3, TX3, 2), (RX4, TX4, 2), (RX5, TX5, 3), (RX6, TX6, 6), (RX7, TX7, 7), (RX8, TX8, 5), (RX9, TX9, 6), (RX10, TX10, 10), (RX11, TX11, 37)]
end
section
theorem dX0_init_0 : decode cX0_init 0 = .ok (.aload_n 0, 1) := by decide +kernel
theorem dX0_init_1 : decode cX0_init 1 = .ok (.invokespecial 1, 3) := by decide +kernel
theorem dX0_init_4 : decode cX0_init 4 = .ok (.return_, 1) := by decide +kernel
theorem dX0_clear_0 : decode cX0_clear 0 = .ok (.aload_n 0, 1) := by decide +kernel
theorem dX0_clear_1 : decode cX0_clear 1 = .ok (.iconst 0, 1) := by decide +kernel
theorem dX0_clear_2 : decode cX0_clear 2 = .ok (.putfield 7, 3) := by decide +kernel
theorem dX0_clear_5 : decode cX0_clear 5 = .ok (.aload_n 0, 1) := by decide +kernel
theorem dX0_clear_6 : decode cX0_clear 6 = .ok (.iconst 0, 1) := by decide +kernel
theorem dX0_clear_7 : decode cX0_clear 7 = .ok (.putfield 13, 3) := by decide +kernel
theorem dX0_clear_10 : decode cX0_clear 10 = .ok (.return_, 1) := by decide +kernel
theorem dX0_accept_0 : decode cX0_accept 0 = .ok (.aload_n 0, 1) := by decide +kernel
theorem dX0_accept_1 : decode cX0_accept 1 = .ok (.getfield 13, 3) := by decide +kernel
theorem dX0_accept_4 : decode cX0_accept 4 = .ok (.ifCond .ne 7, 3) := by decide +kernel
theorem dX0_accept_7 : decode cX0_accept 7 = .ok (.iload_n 1, 1) := by decide +kernel
theorem dX0_accept_8 : decode cX0_accept 8 = .ok (.goto 9, 3) := by decide +kernel
theorem dX0_accept_11 : decode cX0_accept 11 = .ok (.aload_n 0, 1) := by decide +kernel
theorem dX0_accept_12 : decode cX0_accept 12 = .ok (.getfield 7, 3) := by decide +kernel
theorem dX0_accept_15 : decode cX0_accept 15 = .ok (.iload_n 1, 1) := by decide +kernel
theorem dX0_accept_16 : decode cX0_accept 16 = .ok (.iand, 1) := by decide +kernel
theorem dX0_accept_17 : decode cX0_accept 17 = .ok (.istore_n 2, 1) := by decide +kernel
theorem dX0_accept_18 : decode cX0_accept 18 = .ok (.iload_n 2, 1) := by decide +kernel
theorem dX0_accept_19 : decode cX0_accept 19 = .ok (.ifCond .ne 5, 3) := by decide +kernel
theorem dX0_accept_22 : decode cX0_accept 22 = .ok (.iconst 0, 1) := by decide +kernel
theorem dX0_accept_23 : decode cX0_accept 23 = .ok (.ireturn, 1) := by decide +kernel
theorem dX0_accept_24 : decode cX0_accept 24 = .ok (.aload_n 0, 1) := by decide +kernel
theorem dX0_accept_25 : decode cX0_accept 25 = .ok (.iload_n 2, 1) := by decide +kernel
theorem dX0_accept_26 : decode cX0_accept 26 = .ok (.putfield 7, 3) := by decide +kernel
theorem dX0_accept_29 : decode cX0_accept 29 = .ok (.aload_n 0, 1) := by decide +kernel
theorem dX0_accept_30 : decode cX0_accept 30 = .ok (.dup, 1) := by decide +kernel
theorem dX0_accept_31 : decode cX0_accept 31 = .ok (.getfield 13, 3) := by decide +kernel
theorem dX0_accept_34 : decode cX0_accept 34 = .ok (.iconst 1, 1) := by decide +kernel
theorem dX0_accept_35 : decode cX0_accept 35 = .ok (.iadd, 1) := by decide +kernel
theorem dX0_accept_36 : decode cX0_accept 36 = .ok (.putfield 13, 3) := by decide +kernel
theorem dX0_accept_39 : decode cX0_accept 39 = .ok (.iconst 1, 1) := by decide +kernel
theorem dX0_accept_40 : decode cX0_accept 40 = .ok (.ireturn, 1) := by decide +kernel
theorem dX1_init_0 : decode cX1_init 0 = .ok (.aload_n 0, 1) := by decide +kernel
theorem dX1_init_1 : decode cX1_init 1 = .ok (.invokespecial 3, 3) := by decide +kernel
theorem dX1_init_4 : decode cX1_init 4 = .ok (.aload_n 0, 1) := by decide +kernel
theorem dX1_init_5 : decode cX1_init 5 = .ok (.aload_n 1, 1) := by decide +kernel
theorem dX1_init_6 : decode cX1_init 6 = .ok (.putfield 9, 3) := by decide +kernel
theorem dX1_init_9 : decode cX1_init 9 = .ok (.aload_n 0, 1) := by decide +kernel
theorem dX1_init_10 : decode cX1_init 10 = .ok (.aload_n 2, 1) := by decide +kernel
theorem dX1_init_11 : decode cX1_init 11 = .ok (.putfield 15, 3) := by decide +kernel
theorem dX1_init_14 : decode cX1_init 14 = .ok (.aload_n 0, 1) := by decide +kernel
theorem dX1_init_15 : decode cX1_init 15 = .ok (.aload_n 3, 1) := by decide +kernel
theorem dX1_init_16 : decode cX1_init 16 = .ok (.putfield 19, 3) := by decide +kernel
theorem dX1_init_19 : decode cX1_init 19 = .ok (.return_, 1) := by decide +kernel
set_option maxRecDepth 20000 in
theorem ggX1_cutLine_X7_startOn : GoodIn wsX1_cutLine wsX7_startOn := goodIn_r _ [10, 11, 12, 13, 14, 15, 16, 17, 18, 19, 20, 21, 22, 23, 24, 25, 26, 27, 28, 29, 30, 31, 32, 156, 157, 158, 159, 160, 161, 162, 154, 155] (by decide +kernel) (by decide +kernel)
set_option maxRecDepth 20000 in
theorem gX1_cutLine_X7_startOn : GoodIn wsX1_cutLine (wsV RX1 31 RX7 yX7_startOn wsX7_startOn) := goodIn_app (goodIn_of _ (by decide +kernel)) ggX1_cutLine_X7_startOn
set_option maxRecDepth 20000 in
theorem ggX1_cutLine_X1_cutAt : GoodIn wsX1_cutLine wsX1_cutAt := goodIn_r _ [37, 3, 38, 25, 26, 17, 27, 19, 28, 39, 40, 41, 42, 43, 44, 45, 46, 47, 48, 49, 50, 51, 36, 52, 4, 53, 1, 54, 55, 56, 57, 58, 59, 60, 61, 62, 63, 64, 65, 66, 67, 68, 69, 70, 71, 72, 73, 74, 75, 76, 77, 78, 79, 80, 81, 82, 83, 84, 85, 86, 87, 88, 89, 2, 90, 91, 92, 9, 93, 12, 13, 94, 95, 96, 97, 98, 99, 100, 101, 102, 103, 104, 105, 106, 107, 108, 109, 110, 111, 112, 113, 114, 115, 116, 117, 118, 119, 120, 121, 122, 123, 124, 125, 126, 127, 128, 129, 130, 131, 132, 133, 134, 135, 136, 137, 138, 139, 140, 141, 142, 143, 144, 145, 146, 147, 148, 149, 150, 151, 152, 153, 154, 155, 163, 164, 165, 166, 167, 168, 169, 170, 171, 172, 173, 174, 175, 176, 177, 178, 156, 157, 158, 159, 160, 161, 162] (by decide +kernel) (by decide +kernel)
set_option maxRecDepth 20000 in
theorem gX1_cutLine_X1_cutAt : GoodIn wsX1_cutLine (wsV RX1 42 RX1 yX1_cutAt wsX1_cutAt) := goodIn_app (goodIn_of _ (by decide +kernel)) ggX1_cutLine_X1_cutAt
theorem dX1_cutLine_0 : decode cX1_cutLine 0 = .ok (.aload_n 0, 1) := by decide +kernel
theorem dX1_cutLine_1 : decode cX1_cutLine 1 = .ok (.iload_n 1, 1) := by decide +kernel
theorem dX1_cutLine_2 : decode cX1_cutLine 2 = .ok (.putfield 23, 3) := by decide +kernel
theorem dX1_cutLine_5 : decode cX1_cutLine 5 = .ok (.aload_n 0, 1) := by decide +kernel
theorem dX1_cutLine_6 : decode cX1_cutLine 6 = .ok (.aload_n 2, 1) := by decide +kernel
theorem dX1_cutLine_7 : decode cX1_cutLine 7 = .ok (.putfield 27, 3) := by decide +kernel
theorem dX1_cutLine_10 : decode cX1_cutLine 10 = .ok (.aload_n 2, 1) := by decide +kernel
theorem dX1_cutLine_11 : decode cX1_cutLine 11 = .ok (.aload_n 0, 1) := by decide +kernel
theorem dX1_cutLine_12 : decode cX1_cutLine 12 = .ok (.getfield 19, 3) := by decide +kernel
theorem dX1_cutLine_15 : decode cX1_cutLine 15 = .ok (.invokevirtual 31, 3) := by decide +kernel
theorem dX1_cutLine_18 : decode cX1_cutLine 18 = .ok (.iconst 0, 1) := by decide +kernel
theorem dX1_cutLine_19 : decode cX1_cutLine 19 = .ok (.istore_n 3, 1) := by decide +kernel
theorem dX1_cutLine_20 : decode cX1_cutLine 20 = .ok (.iconst 0, 1) := by decide +kernel
theorem dX1_cutLine_21 : decode cX1_cutLine 21 = .ok (.istore 4, 2) := by decide +kernel
theorem dX1_cutLine_23 : decode cX1_cutLine 23 = .ok (.iload 4, 2) := by decide +kernel
theorem dX1_cutLine_25 : decode cX1_cutLine 25 = .ok (.bipush 80, 2) := by decide +kernel
theorem dX1_cutLine_27 : decode cX1_cutLine 27 = .ok (.if_icmp .ge 26, 3) := by decide +kernel
theorem dX1_cutLine_30 : decode cX1_cutLine 30 = .ok (.iload_n 3, 1) := by decide +kernel
theorem dX1_cutLine_31 : decode cX1_cutLine 31 = .ok (.aload_n 0, 1) := by decide +kernel
theorem dX1_cutLine_32 : decode cX1_cutLine 32 = .ok (.getfield 19, 3) := by decide +kernel
theorem dX1_cutLine_35 : decode cX1_cutLine 35 = .ok (.getfield 37, 3) := by decide +kernel
theorem dX1_cutLine_38 : decode cX1_cutLine 38 = .ok (.if_icmp .ge 15, 3) := by decide +kernel
theorem dX1_cutLine_41 : decode cX1_cutLine 41 = .ok (.aload_n 0, 1) := by decide +kernel
theorem dX1_cutLine_42 : decode cX1_cutLine 42 = .ok (.iload_n 3, 1) := by decide +kernel
theorem dX1_cutLine_43 : decode cX1_cutLine 43 = .ok (.invokevirtual 42, 3) := by decide +kernel
theorem dX1_cutLine_46 : decode cX1_cutLine 46 = .ok (.istore_n 3, 1) := by decide +kernel
theorem dX1_cutLine_47 : decode cX1_cutLine 47 = .ok (.iinc 4 1, 3) := by decide +kernel
theorem dX1_cutLine_50 : decode cX1_cutLine 50 = .ok (.goto (-27), 3) := by decide +kernel
theorem dX1_cutLine_53 : decode cX1_cutLine 53 = .ok (.aload_n 2, 1) := by decide +kernel
theorem dX1_cutLine_54 : decode cX1_cutLine 54 = .ok (.getfield 46, 3) := by decide +kernel
theorem dX1_cutLine_57 : decode cX1_cutLine 57 = .ok (.ifCond .ne 7, 3) := by decide +kernel
theorem dX1_cutLine_60 : decode cX1_cutLine 60 = .ok (.iconst 1, 1) := by decide +kernel
theorem dX1_cutLine_61 : decode cX1_cutLine 61 = .ok (.goto 4, 3) := by decide +kernel
theorem dX1_cutLine_64 : decode cX1_cutLine 64 = .ok (.iconst 0, 1) := by decide +kernel
theorem dX1_cutLine_65 : decode cX1_cutLine 65 = .ok (.ireturn, 1) := by decide +kernel
set_option maxRecDepth 20000 in
theorem ggX1_cutAt_X4_byteAt : GoodIn wsX1_cutAt wsX4_byteAt := goodIn_r _ [6, 7, 8, 131, 132] (by decide +kernel) (by decide +kernel)
set_option maxRecDepth 20000 in
theorem gX1_cutAt_X4_byteAt : GoodIn wsX1_cutAt (wsV RX1 50 RX4 yX4_byteAt wsX4_byteAt) := goodIn_app (goodIn_of _ (by decide +kernel)) ggX1_cutAt_X4_byteAt
set_option maxRecDepth 20000 in
theorem ggX1_cutAt_X3_isLetter : GoodIn wsX1_cutAt wsX3_isLetter := goodIn_r _ [12, 13, 14, 11, 15, 16, 17, 18] (by decide +kernel) (by decide +kernel)
set_option maxRecDepth 20000 in
theorem gX1_cutAt_X3_isLetter : GoodIn wsX1_cutAt (va_wsS RX1 53 yX3_isLetter wsX3_isLetter) := goodIn_app (goodIn_of _ (by decide +kernel)) ggX1_cutAt_X3_isLetter
set_option maxRecDepth 20000 in
theorem ggX1_cutAt_X1_cutLetters : GoodIn wsX1_cutAt wsX1_cutLetters := goodIn_r _ [23, 1, 24, 25, 26, 27, 28, 2, 3, 4, 5, 6, 7, 8, 9, 10, 11, 12, 13, 14, 15, 16, 17, 18, 29, 30, 31, 32, 33, 34, 35, 36, 37, 38, 39, 40, 41, 42, 43, 44, 45, 46, 47, 48, 49, 50, 51, 52, 53, 54, 55, 56, 57, 58, 59, 60, 61, 22, 62, 63, 64, 65, 66, 67, 68, 69, 70, 71, 72, 73, 74, 75, 76, 77, 78, 79, 80, 81, 126, 127, 128, 129, 130, 131, 132, 133, 134, 135, 136, 137, 138, 139, 140, 141, 142, 143, 144, 145, 146, 147, 148, 149, 150, 151, 152, 153, 154, 155] (by decide +kernel) (by decide +kernel)
set_option maxRecDepth 20000 in
theorem gX1_cutAt_X1_cutLetters : GoodIn wsX1_cutAt (wsV RX1 59 RX1 yX1_cutLetters wsX1_cutLetters) := goodIn_app (goodIn_of _ (by decide +kernel)) ggX1_cutAt_X1_cutLetters
set_option maxRecDepth 20000 in
theorem ggX1_cutAt_X1_isDigit : GoodIn wsX1_cutAt wsX1_isDigit := goodIn_r _ [84] (by decide +kernel) (by decide +kernel)
set_option maxRecDepth 20000 in
theorem gX1_cutAt_X1_isDigit : GoodIn wsX1_cutAt (va_wsS RX1 62 yX1_isDigit wsX1_isDigit) := goodIn_app (goodIn_of _ (by decide +kernel)) ggX1_cutAt_X1_isDigit
set_option maxRecDepth 20000 in
theorem ggX1_cutAt_X1_cutDigits : GoodIn wsX1_cutAt wsX1_cutDigits := goodIn_r _ [88, 89, 90, 91, 22, 92, 1, 24, 2, 3, 4, 5, 6, 7, 8, 82, 83, 84, 93, 94, 95, 96, 97, 98, 99, 100, 101, 50, 51, 52, 102, 103, 104, 105, 106, 107, 108, 109, 110, 111, 55, 56, 11, 57, 58, 9, 10, 12, 13, 14, 15, 16, 17, 18, 59, 60, 61, 62, 63, 64, 65, 66, 67, 68, 69, 70, 71, 72, 73, 74, 126, 127, 128, 129, 130, 131, 132, 147, 148, 149, 150, 151, 152, 153, 154, 155] (by decide +kernel) (by decide +kernel)
set_option maxRecDepth 20000 in
theorem gX1_cutAt_X1_cutDigits : GoodIn wsX1_cutAt (wsV RX1 65 RX1 yX1_cutDigits wsX1_cutDigits) := goodIn_app (goodIn_of _ (by decide +kernel)) ggX1_cutAt_X1_cutDigits
set_option maxRecDepth 20000 in
theorem ggX1_cutAt_X1_cutQuoted : GoodIn wsX1_cutAt wsX1_cutQuoted := goodIn_r _ [115, 1, 24, 2, 3, 4, 5, 6, 7, 8, 59, 60, 61, 22, 62, 63, 64, 65, 66, 67, 68, 69, 70, 71, 72, 73, 74, 126, 127, 128, 129, 130, 131, 132, 149, 150, 151, 152, 153, 154, 155] (by decide +kernel) (by decide +kernel)
set_option maxRecDepth 20000 in
theorem gX1_cutAt_X1_cutQuoted : GoodIn wsX1_cutAt (wsV RX1 68 RX1 yX1_cutQuoted wsX1_cutQuoted) := goodIn_app (goodIn_of _ (by decide +kernel)) ggX1_cutAt_X1_cutQuoted
set_option maxRecDepth 20000 in
theorem ggX1_cutAt_X1_isMark : GoodIn wsX1_cutAt wsX1_isMark := goodIn_r _ [118] (by decide +kernel) (by decide +kernel)
set_option maxRecDepth 20000 in
theorem gX1_cutAt_X1_isMark : GoodIn wsX1_cutAt (va_wsS RX1 71 yX1_isMark wsX1_isMark) := goodIn_app (goodIn_of _ (by decide +kernel)) ggX1_cutAt_X1_isMark
set_option maxRecDepth 20000 in
theorem ggX1_cutAt_X1_addUpTo : GoodIn wsX1_cutAt wsX1_addUpTo := goodIn_r _ [62, 63, 64, 65, 66, 67, 68, 69, 70, 71, 72, 73, 74, 126, 127, 128, 129, 130, 149, 150, 151, 152, 153, 154, 155] (by decide +kernel) (by decide +kernel)
set_option maxRecDepth 20000 in
theorem gX1_cutAt_X1_addUpTo : GoodIn wsX1_cutAt (wsV RX1 74 RX1 yX1_addUpTo wsX1_addUpTo) := goodIn_app (goodIn_of _ (by decide +kernel)) ggX1_cutAt_X1_addUpTo
set_option maxRecDepth 20000 in
theorem ggX1_cutAt_X1_cutOther : GoodIn wsX1_cutAt wsX1_cutOther := goodIn_r _ [122, 1, 24, 2, 3, 4, 5, 6, 7, 8, 123, 124, 22, 125, 116, 117, 118, 82, 83, 84, 9, 10, 11, 12, 13, 14, 15, 16, 17, 18, 59, 60, 61, 62, 63, 64, 65, 66, 67, 68, 69, 70, 71, 72, 73, 74, 126, 127, 128, 129, 130, 131, 132, 149, 150, 151, 152, 153, 154, 155] (by decide +kernel) (by decide +kernel)
set_option maxRecDepth 20000 in
theorem gX1_cutAt_X1_cutOther : GoodIn wsX1_cutAt (wsV RX1 78 RX1 yX1_cutOther wsX1_cutOther) := goodIn_app (goodIn_of _ (by decide +kernel)) ggX1_cutAt_X1_cutOther
theorem dX1_cutAt_0 : decode cX1_cutAt 0 = .ok (.aload_n 0, 1) := by decide +kernel
theorem dX1_cutAt_1 : decode cX1_cutAt 1 = .ok (.getfield 19, 3) := by decide +kernel
theorem dX1_cutAt_4 : decode cX1_cutAt 4 = .ok (.iload_n 1, 1) := by decide +kernel
theorem dX1_cutAt_5 : decode cX1_cutAt 5 = .ok (.invokevirtual 50, 3) := by decide +kernel
theorem dX1_cutAt_8 : decode cX1_cutAt 8 = .ok (.istore_n 2, 1) := by decide +kernel
theorem dX1_cutAt_9 : decode cX1_cutAt 9 = .ok (.iload_n 2, 1) := by decide +kernel
theorem dX1_cutAt_10 : decode cX1_cutAt 10 = .ok (.bipush 32, 2) := by decide +kernel
theorem dX1_cutAt_12 : decode cX1_cutAt 12 = .ok (.if_icmp .ne 7, 3) := by decide +kernel
theorem dX1_cutAt_15 : decode cX1_cutAt 15 = .ok (.iload_n 1, 1) := by decide +kernel
theorem dX1_cutAt_16 : decode cX1_cutAt 16 = .ok (.iconst 1, 1) := by decide +kernel
theorem dX1_cutAt_17 : decode cX1_cutAt 17 = .ok (.iadd, 1) := by decide +kernel
theorem dX1_cutAt_18 : decode cX1_cutAt 18 = .ok (.ireturn, 1) := by decide +kernel
theorem dX1_cutAt_19 : decode cX1_cutAt 19 = .ok (.iload_n 2, 1) := by decide +kernel
theorem dX1_cutAt_20 : decode cX1_cutAt 20 = .ok (.invokestatic 53, 3) := by decide +kernel
theorem dX1_cutAt_23 : decode cX1_cutAt 23 = .ok (.ifCond .eq 9, 3) := by decide +kernel
theorem dX1_cutAt_26 : decode cX1_cutAt 26 = .ok (.aload_n 0, 1) := by decide +kernel
theorem dX1_cutAt_27 : decode cX1_cutAt 27 = .ok (.iload_n 1, 1) := by decide +kernel
theorem dX1_cutAt_28 : decode cX1_cutAt 28 = .ok (.invokevirtual 59, 3) := by decide +kernel
theorem dX1_cutAt_31 : decode cX1_cutAt 31 = .ok (.ireturn, 1) := by decide +kernel
theorem dX1_cutAt_32 : decode cX1_cutAt 32 = .ok (.iload_n 2, 1) := by decide +kernel
theorem dX1_cutAt_33 : decode cX1_cutAt 33 = .ok (.invokestatic 62, 3) := by decide +kernel
theorem dX1_cutAt_36 : decode cX1_cutAt 36 = .ok (.ifCond .eq 9, 3) := by decide +kernel
theorem dX1_cutAt_39 : decode cX1_cutAt 39 = .ok (.aload_n 0, 1) := by decide +kernel
theorem dX1_cutAt_40 : decode cX1_cutAt 40 = .ok (.iload_n 1, 1) := by decide +kernel
theorem dX1_cutAt_41 : decode cX1_cutAt 41 = .ok (.invokevirtual 65, 3) := by decide +kernel
theorem dX1_cutAt_44 : decode cX1_cutAt 44 = .ok (.ireturn, 1) := by decide +kernel
theorem dX1_cutAt_45 : decode cX1_cutAt 45 = .ok (.iload_n 2, 1) := by decide +kernel
theorem dX1_cutAt_46 : decode cX1_cutAt 46 = .ok (.bipush 34, 2) := by decide +kernel
theorem dX1_cutAt_48 : decode cX1_cutAt 48 = .ok (.if_icmp .ne 9, 3) := by decide +kernel
theorem dX1_cutAt_51 : decode cX1_cutAt 51 = .ok (.aload_n 0, 1) := by decide +kernel
theorem dX1_cutAt_52 : decode cX1_cutAt 52 = .ok (.iload_n 1, 1) := by decide +kernel
theorem dX1_cutAt_53 : decode cX1_cutAt 53 = .ok (.invokevirtual 68, 3) := by decide +kernel
theorem dX1_cutAt_56 : decode cX1_cutAt 56 = .ok (.ireturn, 1) := by decide +kernel
theorem dX1_cutAt_57 : decode cX1_cutAt 57 = .ok (.iload_n 2, 1) := by decide +kernel
theorem dX1_cutAt_58 : decode cX1_cutAt 58 = .ok (.invokestatic 71, 3) := by decide +kernel
theorem dX1_cutAt_61 : decode cX1_cutAt 61 = .ok (.ifCond .eq 16, 3) := by decide +kernel
theorem dX1_cutAt_64 : decode cX1_cutAt 64 = .ok (.aload_n 0, 1) := by decide +kernel
theorem dX1_cutAt_65 : decode cX1_cutAt 65 = .ok (.iload_n 1, 1) := by decide +kernel
theorem dX1_cutAt_66 : decode cX1_cutAt 66 = .ok (.iconst 1, 1) := by decide +kernel
theorem dX1_cutAt_67 : decode cX1_cutAt 67 = .ok (.iadd, 1) := by decide +kernel
theorem dX1_cutAt_68 : decode cX1_cutAt 68 = .ok (.iconst 5, 1) := by decide +kernel
theorem dX1_cutAt_69 : decode cX1_cutAt 69 = .ok (.iload_n 1, 1) := by decide +kernel
theorem dX1_cutAt_70 : decode cX1_cutAt 70 = .ok (.iload_n 2, 1) := by decide +kernel
theorem dX1_cutAt_71 : decode cX1_cutAt 71 = .ok (.invokevirtual 74, 3) := by decide +kernel
theorem dX1_cutAt_74 : decode cX1_cutAt 74 = .ok (.goto 8, 3) := by decide +kernel
theorem dX1_cutAt_77 : decode cX1_cutAt 77 = .ok (.aload_n 0, 1) := by decide +kernel
theorem dX1_cutAt_78 : decode cX1_cutAt 78 = .ok (.iload_n 1, 1) := by decide +kernel
theorem dX1_cutAt_79 : decode cX1_cutAt 79 = .ok (.invokevirtual 78, 3) := by decide +kernel
theorem dX1_cutAt_82 : decode cX1_cutAt 82 = .ok (.ireturn, 1) := by decide +kernel
set_option maxRecDepth 20000 in
theorem ggX1_addUpTo_X7_add : GoodIn wsX1_addUpTo wsX7_add := goodIn_r _ [6, 7, 8, 9, 10, 11, 12, 18, 19, 20, 21, 22, 23, 24] (by decide +kernel) (by decide +kernel)
set_option maxRecDepth 20000 in
theorem gX1_addUpTo_X7_add : GoodIn wsX1_addUpTo (wsV RX1 81 RX7 yX7_add wsX7_add) := goodIn_app (goodIn_of _ (by decide +kernel)) ggX1_addUpTo_X7_add
theorem dX1_addUpTo_0 : decode cX1_addUpTo 0 = .ok (.aload_n 0, 1) := by decide +kernel
theorem dX1_addUpTo_1 : decode cX1_addUpTo 1 = .ok (.getfield 27, 3) := by decide +kernel
theorem dX1_addUpTo_4 : decode cX1_addUpTo 4 = .ok (.ifnull 17, 3) := by decide +kernel
theorem dX1_addUpTo_7 : decode cX1_addUpTo 7 = .ok (.aload_n 0, 1) := by decide +kernel
theorem dX1_addUpTo_8 : decode cX1_addUpTo 8 = .ok (.getfield 27, 3) := by decide +kernel
theorem dX1_addUpTo_11 : decode cX1_addUpTo 11 = .ok (.iload_n 2, 1) := by decide +kernel
theorem dX1_addUpTo_12 : decode cX1_addUpTo 12 = .ok (.iload_n 3, 1) := by decide +kernel
theorem dX1_addUpTo_13 : decode cX1_addUpTo 13 = .ok (.iload_n 1, 1) := by decide +kernel
theorem dX1_addUpTo_14 : decode cX1_addUpTo 14 = .ok (.iload_n 3, 1) := by decide +kernel
theorem dX1_addUpTo_15 : decode cX1_addUpTo 15 = .ok (.isub, 1) := by decide +kernel
theorem dX1_addUpTo_16 : decode cX1_addUpTo 16 = .ok (.iload 4, 2) := by decide +kernel
theorem dX1_addUpTo_18 : decode cX1_addUpTo 18 = .ok (.invokevirtual 81, 3) := by decide +kernel
theorem dX1_addUpTo_21 : decode cX1_addUpTo 21 = .ok (.iload_n 1, 1) := by decide +kernel
theorem dX1_addUpTo_22 : decode cX1_addUpTo 22 = .ok (.ireturn, 1) := by decide +kernel
set_option maxRecDepth 20000 in
theorem ggX1_cutLetters_X4_byteAt : GoodIn wsX1_cutLetters wsX4_byteAt := goodIn_r _ [11, 12, 13, 83, 84] (by decide +kernel) (by decide +kernel)
set_option maxRecDepth 20000 in
theorem gX1_cutLetters_X4_byteAt : GoodIn wsX1_cutLetters (wsV RX1 50 RX4 yX4_byteAt wsX4_byteAt) := goodIn_app (goodIn_of _ (by decide +kernel)) ggX1_cutLetters_X4_byteAt
set_option maxRecDepth 20000 in
theorem ggX1_cutLetters_X3_isLetter : GoodIn wsX1_cutLetters wsX3_isLetter := goodIn_r _ [17, 18, 19, 16, 20, 21, 22, 23] (by decide +kernel) (by decide +kernel)
set_option maxRecDepth 20000 in
theorem gX1_cutLetters_X3_isLetter : GoodIn wsX1_cutLetters (va_wsS RX1 53 yX3_isLetter wsX3_isLetter) := goodIn_app (goodIn_of _ (by decide +kernel)) ggX1_cutLetters_X3_isLetter
set_option maxRecDepth 20000 in
theorem ggX1_cutLetters_X8_likeIn : GoodIn wsX1_cutLetters wsX8_likeIn := goodIn_r _ [28, 29, 30, 31, 32, 33, 34, 35, 27, 36, 37, 38, 39, 40, 16, 41, 42, 43, 44, 45, 46, 47, 48, 8, 9, 10, 11, 12, 13, 49, 50, 51, 52, 53, 88, 89, 90, 91, 92, 93, 94, 95, 96, 97, 98, 83, 84, 99, 100] (by decide +kernel) (by decide +kernel)
set_option maxRecDepth 20000 in
theorem gX1_cutLetters_X8_likeIn : GoodIn wsX1_cutLetters (wsV RX1 85 RX8 yX8_likeIn wsX8_likeIn) := goodIn_app (goodIn_of _ (by decide +kernel)) ggX1_cutLetters_X8_likeIn
set_option maxRecDepth 20000 in
theorem ggX1_cutLetters_X1_addUpTo : GoodIn wsX1_cutLetters wsX1_addUpTo := goodIn_r _ [58, 59, 60, 61, 62, 63, 64, 65, 66, 67, 68, 69, 70, 78, 79, 80, 81, 82, 101, 102, 103, 104, 105, 106, 107] (by decide +kernel) (by decide +kernel)
set_option maxRecDepth 20000 in
theorem gX1_cutLetters_X1_addUpTo : GoodIn wsX1_cutLetters (wsV RX1 74 RX1 yX1_addUpTo wsX1_addUpTo) := goodIn_app (goodIn_of _ (by decide +kernel)) ggX1_cutLetters_X1_addUpTo
set_option maxRecDepth 20000 in
theorem ggX1_cutLetters_X8_joinLike : GoodIn wsX1_cutLetters wsX8_joinLike := goodIn_r _ [74, 75, 76, 31, 77, 38, 39, 40, 16, 41, 42, 43, 44, 45, 46, 47, 48, 8, 9, 10, 11, 12, 13, 49, 50, 51, 52, 53, 88, 89, 90, 91, 92, 85, 86, 87, 83, 84, 99, 100] (by decide +kernel) (by decide +kernel)
set_option maxRecDepth 20000 in
theorem gX1_cutLetters_X8_joinLike : GoodIn wsX1_cutLetters (wsV RX1 91 RX8 yX8_joinLike wsX8_joinLike) := goodIn_app (goodIn_of _ (by decide +kernel)) ggX1_cutLetters_X8_joinLike
theorem dX1_cutLetters_0 : decode cX1_cutLetters 0 = .ok (.iload_n 1, 1) := by decide +kernel
theorem dX1_cutLetters_1 : decode cX1_cutLetters 1 = .ok (.istore_n 2, 1) := by decide +kernel
theorem dX1_cutLetters_2 : decode cX1_cutLetters 2 = .ok (.iload_n 2, 1) := by decide +kernel
theorem dX1_cutLetters_3 : decode cX1_cutLetters 3 = .ok (.aload_n 0, 1) := by decide +kernel
theorem dX1_cutLetters_4 : decode cX1_cutLetters 4 = .ok (.getfield 19, 3) := by decide +kernel
theorem dX1_cutLetters_7 : decode cX1_cutLetters 7 = .ok (.getfield 37, 3) := by decide +kernel
theorem dX1_cutLetters_10 : decode cX1_cutLetters 10 = .ok (.if_icmp .ge 23, 3) := by decide +kernel
theorem dX1_cutLetters_13 : decode cX1_cutLetters 13 = .ok (.aload_n 0, 1) := by decide +kernel
theorem dX1_cutLetters_14 : decode cX1_cutLetters 14 = .ok (.getfield 19, 3) := by decide +kernel
theorem dX1_cutLetters_17 : decode cX1_cutLetters 17 = .ok (.iload_n 2, 1) := by decide +kernel
theorem dX1_cutLetters_18 : decode cX1_cutLetters 18 = .ok (.invokevirtual 50, 3) := by decide +kernel
theorem dX1_cutLetters_21 : decode cX1_cutLetters 21 = .ok (.invokestatic 53, 3) := by decide +kernel
theorem dX1_cutLetters_24 : decode cX1_cutLetters 24 = .ok (.ifCond .eq 9, 3) := by decide +kernel
theorem dX1_cutLetters_27 : decode cX1_cutLetters 27 = .ok (.iinc 2 1, 3) := by decide +kernel
theorem dX1_cutLetters_30 : decode cX1_cutLetters 30 = .ok (.goto (-28), 3) := by decide +kernel
theorem dX1_cutLetters_33 : decode cX1_cutLetters 33 = .ok (.aload_n 0, 1) := by decide +kernel
theorem dX1_cutLetters_34 : decode cX1_cutLetters 34 = .ok (.getfield 15, 3) := by decide +kernel
theorem dX1_cutLetters_37 : decode cX1_cutLetters 37 = .ok (.aload_n 0, 1) := by decide +kernel
theorem dX1_cutLetters_38 : decode cX1_cutLetters 38 = .ok (.getfield 23, 3) := by decide +kernel
theorem dX1_cutLetters_41 : decode cX1_cutLetters 41 = .ok (.aload_n 0, 1) := by decide +kernel
theorem dX1_cutLetters_42 : decode cX1_cutLetters 42 = .ok (.getfield 19, 3) := by decide +kernel
theorem dX1_cutLetters_45 : decode cX1_cutLetters 45 = .ok (.iload_n 1, 1) := by decide +kernel
theorem dX1_cutLetters_46 : decode cX1_cutLetters 46 = .ok (.iload_n 2, 1) := by decide +kernel
theorem dX1_cutLetters_47 : decode cX1_cutLetters 47 = .ok (.iload_n 1, 1) := by decide +kernel
theorem dX1_cutLetters_48 : decode cX1_cutLetters 48 = .ok (.isub, 1) := by decide +kernel
theorem dX1_cutLetters_49 : decode cX1_cutLetters 49 = .ok (.invokevirtual 85, 3) := by decide +kernel
theorem dX1_cutLetters_52 : decode cX1_cutLetters 52 = .ok (.istore_n 3, 1) := by decide +kernel
theorem dX1_cutLetters_53 : decode cX1_cutLetters 53 = .ok (.iload_n 3, 1) := by decide +kernel
theorem dX1_cutLetters_54 : decode cX1_cutLetters 54 = .ok (.iconst (-1), 1) := by decide +kernel
theorem dX1_cutLetters_55 : decode cX1_cutLetters 55 = .ok (.if_icmp .ne 20, 3) := by decide +kernel
theorem dX1_cutLetters_58 : decode cX1_cutLetters 58 = .ok (.aload_n 0, 1) := by decide +kernel
theorem dX1_cutLetters_59 : decode cX1_cutLetters 59 = .ok (.getfield 15, 3) := by decide +kernel
theorem dX1_cutLetters_62 : decode cX1_cutLetters 62 = .ok (.iconst 0, 1) := by decide +kernel
theorem dX1_cutLetters_63 : decode cX1_cutLetters 63 = .ok (.aload_n 0, 1) := by decide +kernel
theorem dX1_cutLetters_64 : decode cX1_cutLetters 64 = .ok (.getfield 19, 3) := by decide +kernel
theorem dX1_cutLetters_67 : decode cX1_cutLetters 67 = .ok (.iload_n 1, 1) := by decide +kernel
theorem dX1_cutLetters_68 : decode cX1_cutLetters 68 = .ok (.iload_n 2, 1) := by decide +kernel
theorem dX1_cutLetters_69 : decode cX1_cutLetters 69 = .ok (.iload_n 1, 1) := by decide +kernel
theorem dX1_cutLetters_70 : decode cX1_cutLetters 70 = .ok (.isub, 1) := by decide +kernel
theorem dX1_cutLetters_71 : decode cX1_cutLetters 71 = .ok (.invokevirtual 85, 3) := by decide +kernel
theorem dX1_cutLetters_74 : decode cX1_cutLetters 74 = .ok (.istore_n 3, 1) := by decide +kernel
theorem dX1_cutLetters_75 : decode cX1_cutLetters 75 = .ok (.iload_n 3, 1) := by decide +kernel
theorem dX1_cutLetters_76 : decode cX1_cutLetters 76 = .ok (.iconst (-1), 1) := by decide +kernel
theorem dX1_cutLetters_77 : decode cX1_cutLetters 77 = .ok (.if_icmp .eq 12, 3) := by decide +kernel
theorem dX1_cutLetters_80 : decode cX1_cutLetters 80 = .ok (.aload_n 0, 1) := by decide +kernel
theorem dX1_cutLetters_81 : decode cX1_cutLetters 81 = .ok (.iload_n 2, 1) := by decide +kernel
theorem dX1_cutLetters_82 : decode cX1_cutLetters 82 = .ok (.iconst 0, 1) := by decide +kernel
theorem dX1_cutLetters_83 : decode cX1_cutLetters 83 = .ok (.iload_n 1, 1) := by decide +kernel
theorem dX1_cutLetters_84 : decode cX1_cutLetters 84 = .ok (.iload_n 3, 1) := by decide +kernel
theorem dX1_cutLetters_85 : decode cX1_cutLetters 85 = .ok (.invokevirtual 74, 3) := by decide +kernel
theorem dX1_cutLetters_88 : decode cX1_cutLetters 88 = .ok (.ireturn, 1) := by decide +kernel
theorem dX1_cutLetters_89 : decode cX1_cutLetters 89 = .ok (.aload_n 0, 1) := by decide +kernel
theorem dX1_cutLetters_90 : decode cX1_cutLetters 90 = .ok (.getfield 15, 3) := by decide +kernel
theorem dX1_cutLetters_93 : decode cX1_cutLetters 93 = .ok (.aload_n 0, 1) := by decide +kernel
theorem dX1_cutLetters_94 : decode cX1_cutLetters 94 = .ok (.getfield 19, 3) := by decide +kernel
theorem dX1_cutLetters_97 : decode cX1_cutLetters 97 = .ok (.iload_n 1, 1) := by decide +kernel
theorem dX1_cutLetters_98 : decode cX1_cutLetters 98 = .ok (.iload_n 2, 1) := by decide +kernel
theorem dX1_cutLetters_99 : decode cX1_cutLetters 99 = .ok (.iload_n 1, 1) := by decide +kernel
theorem dX1_cutLetters_100 : decode cX1_cutLetters 100 = .ok (.isub, 1) := by decide +kernel
theorem dX1_cutLetters_101 : decode cX1_cutLetters 101 = .ok (.invokevirtual 91, 3) := by decide +kernel
theorem dX1_cutLetters_104 : decode cX1_cutLetters 104 = .ok (.astore 4, 2) := by decide +kernel
theorem dX1_cutLetters_106 : decode cX1_cutLetters 106 = .ok (.aload 4, 2) := by decide +kernel
theorem dX1_cutLetters_108 : decode cX1_cutLetters 108 = .ok (.ifnonnull 12, 3) := by decide +kernel
theorem dX1_cutLetters_111 : decode cX1_cutLetters 111 = .ok (.aload_n 0, 1) := by decide +kernel
theorem dX1_cutLetters_112 : decode cX1_cutLetters 112 = .ok (.iload_n 2, 1) := by decide +kernel
theorem dX1_cutLetters_113 : decode cX1_cutLetters 113 = .ok (.iconst 1, 1) := by decide +kernel
theorem dX1_cutLetters_114 : decode cX1_cutLetters 114 = .ok (.iload_n 1, 1) := by decide +kernel
theorem dX1_cutLetters_115 : decode cX1_cutLetters 115 = .ok (.iconst (-1), 1) := by decide +kernel
theorem dX1_cutLetters_116 : decode cX1_cutLetters 116 = .ok (.invokevirtual 74, 3) := by decide +kernel
theorem dX1_cutLetters_119 : decode cX1_cutLetters 119 = .ok (.ireturn, 1) := by decide +kernel
theorem dX1_cutLetters_120 : decode cX1_cutLetters 120 = .ok (.aload_n 0, 1) := by decide +kernel
theorem dX1_cutLetters_121 : decode cX1_cutLetters 121 = .ok (.iload_n 2, 1) := by decide +kernel
theorem dX1_cutLetters_122 : decode cX1_cutLetters 122 = .ok (.iconst 0, 1) := by decide +kernel
theorem dX1_cutLetters_123 : decode cX1_cutLetters 123 = .ok (.iload_n 1, 1) := by decide +kernel
theorem dX1_cutLetters_124 : decode cX1_cutLetters 124 = .ok (.aload 4, 2) := by decide +kernel
theorem dX1_cutLetters_126 : decode cX1_cutLetters 126 = .ok (.getfield 95, 3) := by decide +kernel
theorem dX1_cutLetters_129 : decode cX1_cutLetters 129 = .ok (.invokevirtual 74, 3) := by decide +kernel
theorem dX1_cutLetters_132 : decode cX1_cutLetters 132 = .ok (.pop, 1) := by decide +kernel
theorem dX1_cutLetters_133 : decode cX1_cutLetters 133 = .ok (.aload_n 0, 1) := by decide +kernel
theorem dX1_cutLetters_134 : decode cX1_cutLetters 134 = .ok (.iload_n 2, 1) := by decide +kernel
theorem dX1_cutLetters_135 : decode cX1_cutLetters 135 = .ok (.iconst 0, 1) := by decide +kernel
theorem dX1_cutLetters_136 : decode cX1_cutLetters 136 = .ok (.iload_n 1, 1) := by decide +kernel
theorem dX1_cutLetters_137 : decode cX1_cutLetters 137 = .ok (.aload 4, 2) := by decide +kernel
theorem dX1_cutLetters_139 : decode cX1_cutLetters 139 = .ok (.getfield 100, 3) := by decide +kernel
theorem dX1_cutLetters_142 : decode cX1_cutLetters 142 = .ok (.invokevirtual 74, 3) := by decide +kernel
theorem dX1_cutLetters_145 : decode cX1_cutLetters 145 = .ok (.ireturn, 1) := by decide +kernel
set_option maxRecDepth 20000 in
theorem ggX1_cutDigits_X1_endOfDigits : GoodIn wsX1_cutDigits wsX1_endOfDigits := goodIn_r _ [5, 6, 7, 8, 9, 10, 11, 12, 13, 14, 15, 16, 4, 17, 70, 71, 72, 73, 74, 75, 76] (by decide +kernel) (by decide +kernel)
set_option maxRecDepth 20000 in
theorem gX1_cutDigits_X1_endOfDigits : GoodIn wsX1_cutDigits (wsV RX1 103 RX1 yX1_endOfDigits wsX1_endOfDigits) := goodIn_app (goodIn_of _ (by decide +kernel)) ggX1_cutDigits_X1_endOfDigits
set_option maxRecDepth 20000 in
theorem ggX1_cutDigits_X1_isTime : GoodIn wsX1_cutDigits wsX1_isTime := goodIn_r _ [21, 6, 8, 9, 10, 11, 12, 13, 14, 1, 2, 3, 4, 5, 7, 15, 16, 17, 22, 23, 24, 25, 26, 27, 28, 29, 70, 71, 72, 73, 74, 75, 76] (by decide +kernel) (by decide +kernel)
set_option maxRecDepth 20000 in
theorem gX1_cutDigits_X1_isTime : GoodIn wsX1_cutDigits (wsV RX1 106 RX1 yX1_isTime wsX1_isTime) := goodIn_app (goodIn_of _ (by decide +kernel)) ggX1_cutDigits_X1_isTime
set_option maxRecDepth 20000 in
theorem ggX1_cutDigits_X1_cutTime : GoodIn wsX1_cutDigits wsX1_cutTime := goodIn_r _ [33, 34, 6, 22, 23, 24, 4, 25, 26, 27, 28, 29, 8, 9, 10, 11, 12, 13, 14, 35, 36, 37, 38, 39, 40, 41, 42, 43, 44, 45, 46, 47, 48, 49, 50, 51, 52, 53, 54, 55, 56, 57, 58, 59, 60, 61, 62, 63, 64, 65, 66, 67, 68, 69, 70, 71, 72, 73, 74, 75, 76, 77, 78, 79, 80, 81, 82, 83, 84, 85] (by decide +kernel) (by decide +kernel)
set_option maxRecDepth 20000 in
theorem gX1_cutDigits_X1_cutTime : GoodIn wsX1_cutDigits (wsV RX1 110 RX1 yX1_cutTime wsX1_cutTime) := goodIn_app (goodIn_of _ (by decide +kernel)) ggX1_cutDigits_X1_cutTime
set_option maxRecDepth 20000 in
theorem ggX1_cutDigits_X1_numberOf : GoodIn wsX1_cutDigits wsX1_numberOf := goodIn_r _ [25, 6, 26, 27, 28, 29, 8, 9, 10, 11, 12, 13, 14, 70, 71, 72, 73, 74, 75, 76] (by decide +kernel) (by decide +kernel)
set_option maxRecDepth 20000 in
theorem gX1_cutDigits_X1_numberOf : GoodIn wsX1_cutDigits (wsV RX1 114 RX1 yX1_numberOf wsX1_numberOf) := goodIn_app (goodIn_of _ (by decide +kernel)) ggX1_cutDigits_X1_numberOf
set_option maxRecDepth 20000 in
theorem ggX1_cutDigits_X1_addUpTo : GoodIn wsX1_cutDigits wsX1_addUpTo := goodIn_r _ [57, 58, 59, 60, 61, 62, 63, 64, 65, 66, 67, 68, 69, 70, 71, 72, 73, 74, 79, 80, 81, 82, 83, 84, 85] (by decide +kernel) (by decide +kernel)
set_option maxRecDepth 20000 in
theorem gX1_cutDigits_X1_addUpTo : GoodIn wsX1_cutDigits (wsV RX1 74 RX1 yX1_addUpTo wsX1_addUpTo) := goodIn_app (goodIn_of _ (by decide +kernel)) ggX1_cutDigits_X1_addUpTo
theorem dX1_cutDigits_0 : decode cX1_cutDigits 0 = .ok (.aload_n 0, 1) := by decide +kernel
theorem dX1_cutDigits_1 : decode cX1_cutDigits 1 = .ok (.iload_n 1, 1) := by decide +kernel
theorem dX1_cutDigits_2 : decode cX1_cutDigits 2 = .ok (.invokevirtual 103, 3) := by decide +kernel
theorem dX1_cutDigits_5 : decode cX1_cutDigits 5 = .ok (.istore_n 2, 1) := by decide +kernel
theorem dX1_cutDigits_6 : decode cX1_cutDigits 6 = .ok (.aload_n 0, 1) := by decide +kernel
theorem dX1_cutDigits_7 : decode cX1_cutDigits 7 = .ok (.iload_n 1, 1) := by decide +kernel
theorem dX1_cutDigits_8 : decode cX1_cutDigits 8 = .ok (.iload_n 2, 1) := by decide +kernel
theorem dX1_cutDigits_9 : decode cX1_cutDigits 9 = .ok (.invokevirtual 106, 3) := by decide +kernel
theorem dX1_cutDigits_12 : decode cX1_cutDigits 12 = .ok (.ifCond .eq 10, 3) := by decide +kernel
theorem dX1_cutDigits_15 : decode cX1_cutDigits 15 = .ok (.aload_n 0, 1) := by decide +kernel
theorem dX1_cutDigits_16 : decode cX1_cutDigits 16 = .ok (.iload_n 1, 1) := by decide +kernel
theorem dX1_cutDigits_17 : decode cX1_cutDigits 17 = .ok (.iload_n 2, 1) := by decide +kernel
theorem dX1_cutDigits_18 : decode cX1_cutDigits 18 = .ok (.invokevirtual 110, 3) := by decide +kernel
theorem dX1_cutDigits_21 : decode cX1_cutDigits 21 = .ok (.ireturn, 1) := by decide +kernel
theorem dX1_cutDigits_22 : decode cX1_cutDigits 22 = .ok (.aload_n 0, 1) := by decide +kernel
theorem dX1_cutDigits_23 : decode cX1_cutDigits 23 = .ok (.iload_n 1, 1) := by decide +kernel
theorem dX1_cutDigits_24 : decode cX1_cutDigits 24 = .ok (.iload_n 2, 1) := by decide +kernel
theorem dX1_cutDigits_25 : decode cX1_cutDigits 25 = .ok (.invokevirtual 114, 3) := by decide +kernel
theorem dX1_cutDigits_28 : decode cX1_cutDigits 28 = .ok (.istore_n 3, 1) := by decide +kernel
theorem dX1_cutDigits_29 : decode cX1_cutDigits 29 = .ok (.iload_n 3, 1) := by decide +kernel
theorem dX1_cutDigits_30 : decode cX1_cutDigits 30 = .ok (.sipush 30000, 3) := by decide +kernel
theorem dX1_cutDigits_33 : decode cX1_cutDigits 33 = .ok (.if_icmp .le 13, 3) := by decide +kernel
theorem dX1_cutDigits_36 : decode cX1_cutDigits 36 = .ok (.aload_n 0, 1) := by decide +kernel
theorem dX1_cutDigits_37 : decode cX1_cutDigits 37 = .ok (.iload_n 2, 1) := by decide +kernel
theorem dX1_cutDigits_38 : decode cX1_cutDigits 38 = .ok (.bipush 6, 2) := by decide +kernel
theorem dX1_cutDigits_40 : decode cX1_cutDigits 40 = .ok (.iload_n 1, 1) := by decide +kernel
theorem dX1_cutDigits_41 : decode cX1_cutDigits 41 = .ok (.iconst (-1), 1) := by decide +kernel
theorem dX1_cutDigits_42 : decode cX1_cutDigits 42 = .ok (.invokevirtual 74, 3) := by decide +kernel
theorem dX1_cutDigits_45 : decode cX1_cutDigits 45 = .ok (.ireturn, 1) := by decide +kernel
theorem dX1_cutDigits_46 : decode cX1_cutDigits 46 = .ok (.aload_n 0, 1) := by decide +kernel
theorem dX1_cutDigits_47 : decode cX1_cutDigits 47 = .ok (.iload_n 2, 1) := by decide +kernel
theorem dX1_cutDigits_48 : decode cX1_cutDigits 48 = .ok (.iconst 2, 1) := by decide +kernel
theorem dX1_cutDigits_49 : decode cX1_cutDigits 49 = .ok (.iload_n 1, 1) := by decide +kernel
theorem dX1_cutDigits_50 : decode cX1_cutDigits 50 = .ok (.iload_n 3, 1) := by decide +kernel
theorem dX1_cutDigits_51 : decode cX1_cutDigits 51 = .ok (.invokevirtual 74, 3) := by decide +kernel
theorem dX1_cutDigits_54 : decode cX1_cutDigits 54 = .ok (.ireturn, 1) := by decide +kernel
set_option maxRecDepth 20000 in
theorem ggX1_isTime_X4_byteAt : GoodIn wsX1_isTime wsX4_byteAt := goodIn_r _ [6, 7, 8, 31, 32] (by decide +kernel) (by decide +kernel)
set_option maxRecDepth 20000 in
theorem gX1_isTime_X4_byteAt : GoodIn wsX1_isTime (wsV RX1 50 RX4 yX4_byteAt wsX4_byteAt) := goodIn_app (goodIn_of _ (by decide +kernel)) ggX1_isTime_X4_byteAt
set_option maxRecDepth 20000 in
theorem ggX1_isTime_X1_endOfDigits : GoodIn wsX1_isTime wsX1_endOfDigits := goodIn_r _ [13, 1, 14, 2, 3, 4, 5, 6, 7, 8, 15, 16, 12, 17, 26, 27, 28, 29, 30, 31, 32] (by decide +kernel) (by decide +kernel)
set_option maxRecDepth 20000 in
theorem gX1_isTime_X1_endOfDigits : GoodIn wsX1_isTime (wsV RX1 103 RX1 yX1_endOfDigits wsX1_endOfDigits) := goodIn_app (goodIn_of _ (by decide +kernel)) ggX1_isTime_X1_endOfDigits
set_option maxRecDepth 20000 in
theorem ggX1_isTime_X1_numberOf : GoodIn wsX1_isTime wsX1_numberOf := goodIn_r _ [21, 1, 22, 23, 24, 25, 2, 3, 4, 5, 6, 7, 8, 26, 27, 28, 29, 30, 31, 32] (by decide +kernel) (by decide +kernel)
set_option maxRecDepth 20000 in
theorem gX1_isTime_X1_numberOf : GoodIn wsX1_isTime (wsV RX1 114 RX1 yX1_numberOf wsX1_numberOf) := goodIn_app (goodIn_of _ (by decide +kernel)) ggX1_isTime_X1_numberOf
theorem dX1_isTime_0 : decode cX1_isTime 0 = .ok (.iload_n 2, 1) := by decide +kernel
theorem dX1_isTime_1 : decode cX1_isTime 1 = .ok (.iload_n 1, 1) := by decide +kernel
theorem dX1_isTime_2 : decode cX1_isTime 2 = .ok (.isub, 1) := by decide +kernel
theorem dX1_isTime_3 : decode cX1_isTime 3 = .ok (.iconst 2, 1) := by decide +kernel
theorem dX1_isTime_4 : decode cX1_isTime 4 = .ok (.if_icmp .gt 59, 3) := by decide +kernel
theorem dX1_isTime_7 : decode cX1_isTime 7 = .ok (.aload_n 0, 1) := by decide +kernel
theorem dX1_isTime_8 : decode cX1_isTime 8 = .ok (.getfield 19, 3) := by decide +kernel
theorem dX1_isTime_11 : decode cX1_isTime 11 = .ok (.iload_n 2, 1) := by decide +kernel
theorem dX1_isTime_12 : decode cX1_isTime 12 = .ok (.invokevirtual 50, 3) := by decide +kernel
theorem dX1_isTime_15 : decode cX1_isTime 15 = .ok (.bipush 58, 2) := by decide +kernel
theorem dX1_isTime_17 : decode cX1_isTime 17 = .ok (.if_icmp .ne 46, 3) := by decide +kernel
theorem dX1_isTime_20 : decode cX1_isTime 20 = .ok (.aload_n 0, 1) := by decide +kernel
theorem dX1_isTime_21 : decode cX1_isTime 21 = .ok (.iload_n 2, 1) := by decide +kernel
theorem dX1_isTime_22 : decode cX1_isTime 22 = .ok (.iconst 1, 1) := by decide +kernel
theorem dX1_isTime_23 : decode cX1_isTime 23 = .ok (.iadd, 1) := by decide +kernel
theorem dX1_isTime_24 : decode cX1_isTime 24 = .ok (.invokevirtual 103, 3) := by decide +kernel
theorem dX1_isTime_27 : decode cX1_isTime 27 = .ok (.iload_n 2, 1) := by decide +kernel
theorem dX1_isTime_28 : decode cX1_isTime 28 = .ok (.iconst 3, 1) := by decide +kernel
theorem dX1_isTime_29 : decode cX1_isTime 29 = .ok (.iadd, 1) := by decide +kernel
theorem dX1_isTime_30 : decode cX1_isTime 30 = .ok (.if_icmp .ne 33, 3) := by decide +kernel
theorem dX1_isTime_33 : decode cX1_isTime 33 = .ok (.aload_n 0, 1) := by decide +kernel
theorem dX1_isTime_34 : decode cX1_isTime 34 = .ok (.iload_n 1, 1) := by decide +kernel
theorem dX1_isTime_35 : decode cX1_isTime 35 = .ok (.iload_n 2, 1) := by decide +kernel
theorem dX1_isTime_36 : decode cX1_isTime 36 = .ok (.invokevirtual 114, 3) := by decide +kernel
theorem dX1_isTime_39 : decode cX1_isTime 39 = .ok (.bipush 23, 2) := by decide +kernel
theorem dX1_isTime_41 : decode cX1_isTime 41 = .ok (.if_icmp .gt 22, 3) := by decide +kernel
theorem dX1_isTime_44 : decode cX1_isTime 44 = .ok (.aload_n 0, 1) := by decide +kernel
theorem dX1_isTime_45 : decode cX1_isTime 45 = .ok (.iload_n 2, 1) := by decide +kernel
theorem dX1_isTime_46 : decode cX1_isTime 46 = .ok (.iconst 1, 1) := by decide +kernel
theorem dX1_isTime_47 : decode cX1_isTime 47 = .ok (.iadd, 1) := by decide +kernel
theorem dX1_isTime_48 : decode cX1_isTime 48 = .ok (.iload_n 2, 1) := by decide +kernel
theorem dX1_isTime_49 : decode cX1_isTime 49 = .ok (.iconst 3, 1) := by decide +kernel
theorem dX1_isTime_50 : decode cX1_isTime 50 = .ok (.iadd, 1) := by decide +kernel
theorem dX1_isTime_51 : decode cX1_isTime 51 = .ok (.invokevirtual 114, 3) := by decide +kernel
theorem dX1_isTime_54 : decode cX1_isTime 54 = .ok (.bipush 59, 2) := by decide +kernel
theorem dX1_isTime_56 : decode cX1_isTime 56 = .ok (.if_icmp .gt 7, 3) := by decide +kernel
theorem dX1_isTime_59 : decode cX1_isTime 59 = .ok (.iconst 1, 1) := by decide +kernel
theorem dX1_isTime_60 : decode cX1_isTime 60 = .ok (.goto 4, 3) := by decide +kernel
theorem dX1_isTime_63 : decode cX1_isTime 63 = .ok (.iconst 0, 1) := by decide +kernel
theorem dX1_isTime_64 : decode cX1_isTime 64 = .ok (.ireturn, 1) := by decide +kernel
set_option maxRecDepth 20000 in
theorem ggX1_cutTime_X1_numberOf : GoodIn wsX1_cutTime wsX1_numberOf := goodIn_r _ [7, 2, 8, 9, 10, 11, 12, 13, 14, 15, 16, 17, 18, 54, 55, 56, 57, 58, 59, 60] (by decide +kernel) (by decide +kernel)
set_option maxRecDepth 20000 in
theorem gX1_cutTime_X1_numberOf : GoodIn wsX1_cutTime (wsV RX1 114 RX1 yX1_numberOf wsX1_numberOf) := goodIn_app (goodIn_of _ (by decide +kernel)) ggX1_cutTime_X1_numberOf
set_option maxRecDepth 20000 in
theorem ggX1_cutTime_X1_isHalfOfDay : GoodIn wsX1_cutTime wsX1_isHalfOfDay := goodIn_r _ [22, 1, 2, 12, 13, 14, 15, 16, 17, 18, 23, 24, 25, 26, 27, 28, 29, 30, 31, 32, 33, 34, 35, 36, 37, 54, 55, 56, 57, 58, 59, 60, 61, 62] (by decide +kernel) (by decide +kernel)
set_option maxRecDepth 20000 in
theorem gX1_cutTime_X1_isHalfOfDay : GoodIn wsX1_cutTime (wsV RX1 117 RX1 yX1_isHalfOfDay wsX1_isHalfOfDay) := goodIn_app (goodIn_of _ (by decide +kernel)) ggX1_cutTime_X1_isHalfOfDay
set_option maxRecDepth 20000 in
theorem ggX1_cutTime_X4_byteAt : GoodIn wsX1_cutTime wsX4_byteAt := goodIn_r _ [16, 17, 18, 59, 60] (by decide +kernel) (by decide +kernel)
set_option maxRecDepth 20000 in
theorem gX1_cutTime_X4_byteAt : GoodIn wsX1_cutTime (wsV RX1 50 RX4 yX4_byteAt wsX4_byteAt) := goodIn_app (goodIn_of _ (by decide +kernel)) ggX1_cutTime_X4_byteAt
set_option maxRecDepth 20000 in
theorem ggX1_cutTime_X3_folded : GoodIn wsX1_cutTime wsX3_folded := goodIn_r _ [27, 28, 61, 62] (by decide +kernel) (by decide +kernel)
set_option maxRecDepth 20000 in
theorem gX1_cutTime_X3_folded : GoodIn wsX1_cutTime (wsV RX1 120 RX3 yX3_folded wsX3_folded) := goodIn_app (goodIn_of _ (by decide +kernel)) ggX1_cutTime_X3_folded
set_option maxRecDepth 20000 in
theorem ggX1_cutTime_X1_addUpTo : GoodIn wsX1_cutTime wsX1_addUpTo := goodIn_r _ [41, 42, 43, 44, 45, 46, 47, 48, 49, 50, 51, 52, 53, 54, 55, 56, 57, 58, 63, 64, 65, 66, 67, 68, 69] (by decide +kernel) (by decide +kernel)
set_option maxRecDepth 20000 in
theorem gX1_cutTime_X1_addUpTo : GoodIn wsX1_cutTime (wsV RX1 74 RX1 yX1_addUpTo wsX1_addUpTo) := goodIn_app (goodIn_of _ (by decide +kernel)) ggX1_cutTime_X1_addUpTo
theorem dX1_cutTime_0 : decode cX1_cutTime 0 = .ok (.aload_n 0, 1) := by decide +kernel
theorem dX1_cutTime_1 : decode cX1_cutTime 1 = .ok (.iload_n 1, 1) := by decide +kernel
theorem dX1_cutTime_2 : decode cX1_cutTime 2 = .ok (.iload_n 2, 1) := by decide +kernel
theorem dX1_cutTime_3 : decode cX1_cutTime 3 = .ok (.invokevirtual 114, 3) := by decide +kernel
theorem dX1_cutTime_6 : decode cX1_cutTime 6 = .ok (.istore_n 3, 1) := by decide +kernel
theorem dX1_cutTime_7 : decode cX1_cutTime 7 = .ok (.aload_n 0, 1) := by decide +kernel
theorem dX1_cutTime_8 : decode cX1_cutTime 8 = .ok (.iload_n 2, 1) := by decide +kernel
theorem dX1_cutTime_9 : decode cX1_cutTime 9 = .ok (.iconst 1, 1) := by decide +kernel
theorem dX1_cutTime_10 : decode cX1_cutTime 10 = .ok (.iadd, 1) := by decide +kernel
theorem dX1_cutTime_11 : decode cX1_cutTime 11 = .ok (.iload_n 2, 1) := by decide +kernel
theorem dX1_cutTime_12 : decode cX1_cutTime 12 = .ok (.iconst 3, 1) := by decide +kernel
theorem dX1_cutTime_13 : decode cX1_cutTime 13 = .ok (.iadd, 1) := by decide +kernel
theorem dX1_cutTime_14 : decode cX1_cutTime 14 = .ok (.invokevirtual 114, 3) := by decide +kernel
theorem dX1_cutTime_17 : decode cX1_cutTime 17 = .ok (.istore 4, 2) := by decide +kernel
theorem dX1_cutTime_19 : decode cX1_cutTime 19 = .ok (.iload_n 2, 1) := by decide +kernel
theorem dX1_cutTime_20 : decode cX1_cutTime 20 = .ok (.iconst 3, 1) := by decide +kernel
theorem dX1_cutTime_21 : decode cX1_cutTime 21 = .ok (.iadd, 1) := by decide +kernel
theorem dX1_cutTime_22 : decode cX1_cutTime 22 = .ok (.istore 5, 2) := by decide +kernel
theorem dX1_cutTime_24 : decode cX1_cutTime 24 = .ok (.iload_n 3, 1) := by decide +kernel
theorem dX1_cutTime_25 : decode cX1_cutTime 25 = .ok (.iconst 1, 1) := by decide +kernel
theorem dX1_cutTime_26 : decode cX1_cutTime 26 = .ok (.if_icmp .lt 63, 3) := by decide +kernel
theorem dX1_cutTime_29 : decode cX1_cutTime 29 = .ok (.iload_n 3, 1) := by decide +kernel
theorem dX1_cutTime_30 : decode cX1_cutTime 30 = .ok (.bipush 12, 2) := by decide +kernel
theorem dX1_cutTime_32 : decode cX1_cutTime 32 = .ok (.if_icmp .gt 57, 3) := by decide +kernel
theorem dX1_cutTime_35 : decode cX1_cutTime 35 = .ok (.aload_n 0, 1) := by decide +kernel
theorem dX1_cutTime_36 : decode cX1_cutTime 36 = .ok (.iload 5, 2) := by decide +kernel
theorem dX1_cutTime_38 : decode cX1_cutTime 38 = .ok (.invokevirtual 117, 3) := by decide +kernel
theorem dX1_cutTime_41 : decode cX1_cutTime 41 = .ok (.ifCond .eq 48, 3) := by decide +kernel
theorem dX1_cutTime_44 : decode cX1_cutTime 44 = .ok (.iload_n 3, 1) := by decide +kernel
theorem dX1_cutTime_45 : decode cX1_cutTime 45 = .ok (.bipush 12, 2) := by decide +kernel
theorem dX1_cutTime_47 : decode cX1_cutTime 47 = .ok (.if_icmp .ne 7, 3) := by decide +kernel
theorem dX1_cutTime_50 : decode cX1_cutTime 50 = .ok (.iconst 0, 1) := by decide +kernel
theorem dX1_cutTime_51 : decode cX1_cutTime 51 = .ok (.goto 4, 3) := by decide +kernel
theorem dX1_cutTime_54 : decode cX1_cutTime 54 = .ok (.iload_n 3, 1) := by decide +kernel
theorem dX1_cutTime_55 : decode cX1_cutTime 55 = .ok (.istore_n 3, 1) := by decide +kernel
theorem dX1_cutTime_56 : decode cX1_cutTime 56 = .ok (.iload_n 3, 1) := by decide +kernel
theorem dX1_cutTime_57 : decode cX1_cutTime 57 = .ok (.aload_n 0, 1) := by decide +kernel
theorem dX1_cutTime_58 : decode cX1_cutTime 58 = .ok (.getfield 9, 3) := by decide +kernel
theorem dX1_cutTime_61 : decode cX1_cutTime 61 = .ok (.aload_n 0, 1) := by decide +kernel
theorem dX1_cutTime_62 : decode cX1_cutTime 62 = .ok (.getfield 19, 3) := by decide +kernel
theorem dX1_cutTime_65 : decode cX1_cutTime 65 = .ok (.iload 5, 2) := by decide +kernel
theorem dX1_cutTime_67 : decode cX1_cutTime 67 = .ok (.invokevirtual 50, 3) := by decide +kernel
theorem dX1_cutTime_70 : decode cX1_cutTime 70 = .ok (.invokevirtual 120, 3) := by decide +kernel
theorem dX1_cutTime_73 : decode cX1_cutTime 73 = .ok (.bipush 112, 2) := by decide +kernel
theorem dX1_cutTime_75 : decode cX1_cutTime 75 = .ok (.if_icmp .ne 8, 3) := by decide +kernel
theorem dX1_cutTime_78 : decode cX1_cutTime 78 = .ok (.bipush 12, 2) := by decide +kernel
theorem dX1_cutTime_80 : decode cX1_cutTime 80 = .ok (.goto 4, 3) := by decide +kernel
theorem dX1_cutTime_83 : decode cX1_cutTime 83 = .ok (.iconst 0, 1) := by decide +kernel
theorem dX1_cutTime_84 : decode cX1_cutTime 84 = .ok (.iadd, 1) := by decide +kernel
theorem dX1_cutTime_85 : decode cX1_cutTime 85 = .ok (.istore_n 3, 1) := by decide +kernel
theorem dX1_cutTime_86 : decode cX1_cutTime 86 = .ok (.iinc 5 2, 3) := by decide +kernel
theorem dX1_cutTime_89 : decode cX1_cutTime 89 = .ok (.aload_n 0, 1) := by decide +kernel
theorem dX1_cutTime_90 : decode cX1_cutTime 90 = .ok (.iload 5, 2) := by decide +kernel
theorem dX1_cutTime_92 : decode cX1_cutTime 92 = .ok (.iconst 3, 1) := by decide +kernel
theorem dX1_cutTime_93 : decode cX1_cutTime 93 = .ok (.iload_n 1, 1) := by decide +kernel
theorem dX1_cutTime_94 : decode cX1_cutTime 94 = .ok (.bipush 60, 2) := by decide +kernel
theorem dX1_cutTime_96 : decode cX1_cutTime 96 = .ok (.iload_n 3, 1) := by decide +kernel
theorem dX1_cutTime_97 : decode cX1_cutTime 97 = .ok (.imul, 1) := by decide +kernel
theorem dX1_cutTime_98 : decode cX1_cutTime 98 = .ok (.iload 4, 2) := by decide +kernel
theorem dX1_cutTime_100 : decode cX1_cutTime 100 = .ok (.iadd, 1) := by decide +kernel
theorem dX1_cutTime_101 : decode cX1_cutTime 101 = .ok (.invokevirtual 74, 3) := by decide +kernel
theorem dX1_cutTime_104 : decode cX1_cutTime 104 = .ok (.ireturn, 1) := by decide +kernel
set_option maxRecDepth 20000 in
theorem ggX1_isHalfOfDay_X4_byteAt : GoodIn wsX1_isHalfOfDay wsX4_byteAt := goodIn_r _ [7, 8, 9, 30, 31] (by decide +kernel) (by decide +kernel)
set_option maxRecDepth 20000 in
theorem gX1_isHalfOfDay_X4_byteAt : GoodIn wsX1_isHalfOfDay (wsV RX1 50 RX4 yX4_byteAt wsX4_byteAt) := goodIn_app (goodIn_of _ (by decide +kernel)) ggX1_isHalfOfDay_X4_byteAt
set_option maxRecDepth 20000 in
theorem ggX1_isHalfOfDay_X3_folded : GoodIn wsX1_isHalfOfDay wsX3_folded := goodIn_r _ [14, 15, 32, 33] (by decide +kernel) (by decide +kernel)
set_option maxRecDepth 20000 in
theorem gX1_isHalfOfDay_X3_folded : GoodIn wsX1_isHalfOfDay (wsV RX1 120 RX3 yX3_folded wsX3_folded) := goodIn_app (goodIn_of _ (by decide +kernel)) ggX1_isHalfOfDay_X3_folded
set_option maxRecDepth 20000 in
theorem ggX1_isHalfOfDay_X3_isLetter : GoodIn wsX1_isHalfOfDay wsX3_isLetter := goodIn_r _ [18, 19, 20, 13, 21, 22, 23, 24] (by decide +kernel) (by decide +kernel)
set_option maxRecDepth 20000 in
theorem gX1_isHalfOfDay_X3_isLetter : GoodIn wsX1_isHalfOfDay (va_wsS RX1 53 yX3_isLetter wsX3_isLetter) := goodIn_app (goodIn_of _ (by decide +kernel)) ggX1_isHalfOfDay_X3_isLetter
theorem dX1_isHalfOfDay_0 : decode cX1_isHalfOfDay 0 = .ok (.aload_n 0, 1) := by decide +kernel
theorem dX1_isHalfOfDay_1 : decode cX1_isHalfOfDay 1 = .ok (.getfield 9, 3) := by decide +kernel
theorem dX1_isHalfOfDay_4 : decode cX1_isHalfOfDay 4 = .ok (.aload_n 0, 1) := by decide +kernel
theorem dX1_isHalfOfDay_5 : decode cX1_isHalfOfDay 5 = .ok (.getfield 19, 3) := by decide +kernel
theorem dX1_isHalfOfDay_8 : decode cX1_isHalfOfDay 8 = .ok (.iload_n 1, 1) := by decide +kernel
theorem dX1_isHalfOfDay_9 : decode cX1_isHalfOfDay 9 = .ok (.invokevirtual 50, 3) := by decide +kernel
theorem dX1_isHalfOfDay_12 : decode cX1_isHalfOfDay 12 = .ok (.invokevirtual 120, 3) := by decide +kernel
theorem dX1_isHalfOfDay_15 : decode cX1_isHalfOfDay 15 = .ok (.istore_n 2, 1) := by decide +kernel
theorem dX1_isHalfOfDay_16 : decode cX1_isHalfOfDay 16 = .ok (.iload_n 2, 1) := by decide +kernel
theorem dX1_isHalfOfDay_17 : decode cX1_isHalfOfDay 17 = .ok (.bipush 97, 2) := by decide +kernel
theorem dX1_isHalfOfDay_19 : decode cX1_isHalfOfDay 19 = .ok (.if_icmp .eq 9, 3) := by decide +kernel
theorem dX1_isHalfOfDay_22 : decode cX1_isHalfOfDay 22 = .ok (.iload_n 2, 1) := by decide +kernel
theorem dX1_isHalfOfDay_23 : decode cX1_isHalfOfDay 23 = .ok (.bipush 112, 2) := by decide +kernel
theorem dX1_isHalfOfDay_25 : decode cX1_isHalfOfDay 25 = .ok (.if_icmp .ne 45, 3) := by decide +kernel
theorem dX1_isHalfOfDay_28 : decode cX1_isHalfOfDay 28 = .ok (.aload_n 0, 1) := by decide +kernel
theorem dX1_isHalfOfDay_29 : decode cX1_isHalfOfDay 29 = .ok (.getfield 9, 3) := by decide +kernel
theorem dX1_isHalfOfDay_32 : decode cX1_isHalfOfDay 32 = .ok (.aload_n 0, 1) := by decide +kernel
theorem dX1_isHalfOfDay_33 : decode cX1_isHalfOfDay 33 = .ok (.getfield 19, 3) := by decide +kernel
theorem dX1_isHalfOfDay_36 : decode cX1_isHalfOfDay 36 = .ok (.iload_n 1, 1) := by decide +kernel
theorem dX1_isHalfOfDay_37 : decode cX1_isHalfOfDay 37 = .ok (.iconst 1, 1) := by decide +kernel
theorem dX1_isHalfOfDay_38 : decode cX1_isHalfOfDay 38 = .ok (.iadd, 1) := by decide +kernel
theorem dX1_isHalfOfDay_39 : decode cX1_isHalfOfDay 39 = .ok (.invokevirtual 50, 3) := by decide +kernel
theorem dX1_isHalfOfDay_42 : decode cX1_isHalfOfDay 42 = .ok (.invokevirtual 120, 3) := by decide +kernel
theorem dX1_isHalfOfDay_45 : decode cX1_isHalfOfDay 45 = .ok (.bipush 109, 2) := by decide +kernel
theorem dX1_isHalfOfDay_47 : decode cX1_isHalfOfDay 47 = .ok (.if_icmp .ne 23, 3) := by decide +kernel
theorem dX1_isHalfOfDay_50 : decode cX1_isHalfOfDay 50 = .ok (.aload_n 0, 1) := by decide +kernel
theorem dX1_isHalfOfDay_51 : decode cX1_isHalfOfDay 51 = .ok (.getfield 19, 3) := by decide +kernel
theorem dX1_isHalfOfDay_54 : decode cX1_isHalfOfDay 54 = .ok (.iload_n 1, 1) := by decide +kernel
theorem dX1_isHalfOfDay_55 : decode cX1_isHalfOfDay 55 = .ok (.iconst 2, 1) := by decide +kernel
theorem dX1_isHalfOfDay_56 : decode cX1_isHalfOfDay 56 = .ok (.iadd, 1) := by decide +kernel
theorem dX1_isHalfOfDay_57 : decode cX1_isHalfOfDay 57 = .ok (.invokevirtual 50, 3) := by decide +kernel
theorem dX1_isHalfOfDay_60 : decode cX1_isHalfOfDay 60 = .ok (.invokestatic 53, 3) := by decide +kernel
theorem dX1_isHalfOfDay_63 : decode cX1_isHalfOfDay 63 = .ok (.ifCond .ne 7, 3) := by decide +kernel
theorem dX1_isHalfOfDay_66 : decode cX1_isHalfOfDay 66 = .ok (.iconst 1, 1) := by decide +kernel
theorem dX1_isHalfOfDay_67 : decode cX1_isHalfOfDay 67 = .ok (.goto 4, 3) := by decide +kernel
theorem dX1_isHalfOfDay_70 : decode cX1_isHalfOfDay 70 = .ok (.iconst 0, 1) := by decide +kernel
theorem dX1_isHalfOfDay_71 : decode cX1_isHalfOfDay 71 = .ok (.ireturn, 1) := by decide +kernel
set_option maxRecDepth 20000 in
theorem ggX1_cutQuoted_X4_byteAt : GoodIn wsX1_cutQuoted wsX4_byteAt := goodIn_r _ [7, 8, 9, 32, 33] (by decide +kernel) (by decide +kernel)
set_option maxRecDepth 20000 in
theorem gX1_cutQuoted_X4_byteAt : GoodIn wsX1_cutQuoted (wsV RX1 50 RX4 yX4_byteAt wsX4_byteAt) := goodIn_app (goodIn_of _ (by decide +kernel)) ggX1_cutQuoted_X4_byteAt
set_option maxRecDepth 20000 in
theorem ggX1_cutQuoted_X1_addUpTo : GoodIn wsX1_cutQuoted wsX1_addUpTo := goodIn_r _ [14, 15, 16, 17, 18, 19, 20, 21, 22, 23, 24, 25, 26, 27, 28, 29, 30, 31, 34, 35, 36, 37, 38, 39, 40] (by decide +kernel) (by decide +kernel)
set_option maxRecDepth 20000 in
theorem gX1_cutQuoted_X1_addUpTo : GoodIn wsX1_cutQuoted (wsV RX1 74 RX1 yX1_addUpTo wsX1_addUpTo) := goodIn_app (goodIn_of _ (by decide +kernel)) ggX1_cutQuoted_X1_addUpTo
theorem dX1_cutQuoted_0 : decode cX1_cutQuoted 0 = .ok (.iload_n 1, 1) := by decide +kernel
theorem dX1_cutQuoted_1 : decode cX1_cutQuoted 1 = .ok (.iconst 1, 1) := by decide +kernel
theorem dX1_cutQuoted_2 : decode cX1_cutQuoted 2 = .ok (.iadd, 1) := by decide +kernel
theorem dX1_cutQuoted_3 : decode cX1_cutQuoted 3 = .ok (.istore_n 2, 1) := by decide +kernel
theorem dX1_cutQuoted_4 : decode cX1_cutQuoted 4 = .ok (.iload_n 2, 1) := by decide +kernel
theorem dX1_cutQuoted_5 : decode cX1_cutQuoted 5 = .ok (.aload_n 0, 1) := by decide +kernel
theorem dX1_cutQuoted_6 : decode cX1_cutQuoted 6 = .ok (.getfield 19, 3) := by decide +kernel
theorem dX1_cutQuoted_9 : decode cX1_cutQuoted 9 = .ok (.getfield 37, 3) := by decide +kernel
theorem dX1_cutQuoted_12 : decode cX1_cutQuoted 12 = .ok (.if_icmp .ge 22, 3) := by decide +kernel
theorem dX1_cutQuoted_15 : decode cX1_cutQuoted 15 = .ok (.aload_n 0, 1) := by decide +kernel
theorem dX1_cutQuoted_16 : decode cX1_cutQuoted 16 = .ok (.getfield 19, 3) := by decide +kernel
theorem dX1_cutQuoted_19 : decode cX1_cutQuoted 19 = .ok (.iload_n 2, 1) := by decide +kernel
theorem dX1_cutQuoted_20 : decode cX1_cutQuoted 20 = .ok (.invokevirtual 50, 3) := by decide +kernel
theorem dX1_cutQuoted_23 : decode cX1_cutQuoted 23 = .ok (.bipush 34, 2) := by decide +kernel
theorem dX1_cutQuoted_25 : decode cX1_cutQuoted 25 = .ok (.if_icmp .eq 9, 3) := by decide +kernel
theorem dX1_cutQuoted_28 : decode cX1_cutQuoted 28 = .ok (.iinc 2 1, 3) := by decide +kernel
theorem dX1_cutQuoted_31 : decode cX1_cutQuoted 31 = .ok (.goto (-27), 3) := by decide +kernel
theorem dX1_cutQuoted_34 : decode cX1_cutQuoted 34 = .ok (.iload_n 2, 1) := by decide +kernel
theorem dX1_cutQuoted_35 : decode cX1_cutQuoted 35 = .ok (.aload_n 0, 1) := by decide +kernel
theorem dX1_cutQuoted_36 : decode cX1_cutQuoted 36 = .ok (.getfield 19, 3) := by decide +kernel
theorem dX1_cutQuoted_39 : decode cX1_cutQuoted 39 = .ok (.getfield 37, 3) := by decide +kernel
theorem dX1_cutQuoted_42 : decode cX1_cutQuoted 42 = .ok (.if_icmp .lt 13, 3) := by decide +kernel
theorem dX1_cutQuoted_45 : decode cX1_cutQuoted 45 = .ok (.aload_n 0, 1) := by decide +kernel
theorem dX1_cutQuoted_46 : decode cX1_cutQuoted 46 = .ok (.iload_n 2, 1) := by decide +kernel
theorem dX1_cutQuoted_47 : decode cX1_cutQuoted 47 = .ok (.bipush 6, 2) := by decide +kernel
theorem dX1_cutQuoted_49 : decode cX1_cutQuoted 49 = .ok (.iload_n 1, 1) := by decide +kernel
theorem dX1_cutQuoted_50 : decode cX1_cutQuoted 50 = .ok (.iconst (-1), 1) := by decide +kernel
theorem dX1_cutQuoted_51 : decode cX1_cutQuoted 51 = .ok (.invokevirtual 74, 3) := by decide +kernel
theorem dX1_cutQuoted_54 : decode cX1_cutQuoted 54 = .ok (.ireturn, 1) := by decide +kernel
theorem dX1_cutQuoted_55 : decode cX1_cutQuoted 55 = .ok (.aload_n 0, 1) := by decide +kernel
theorem dX1_cutQuoted_56 : decode cX1_cutQuoted 56 = .ok (.iload_n 2, 1) := by decide +kernel
theorem dX1_cutQuoted_57 : decode cX1_cutQuoted 57 = .ok (.iconst 1, 1) := by decide +kernel
theorem dX1_cutQuoted_58 : decode cX1_cutQuoted 58 = .ok (.iadd, 1) := by decide +kernel
theorem dX1_cutQuoted_59 : decode cX1_cutQuoted 59 = .ok (.iconst 4, 1) := by decide +kernel
theorem dX1_cutQuoted_60 : decode cX1_cutQuoted 60 = .ok (.iload_n 1, 1) := by decide +kernel
theorem dX1_cutQuoted_61 : decode cX1_cutQuoted 61 = .ok (.iload_n 2, 1) := by decide +kernel
theorem dX1_cutQuoted_62 : decode cX1_cutQuoted 62 = .ok (.iload_n 1, 1) := by decide +kernel
theorem dX1_cutQuoted_63 : decode cX1_cutQuoted 63 = .ok (.isub, 1) := by decide +kernel
theorem dX1_cutQuoted_64 : decode cX1_cutQuoted 64 = .ok (.iconst 1, 1) := by decide +kernel
theorem dX1_cutQuoted_65 : decode cX1_cutQuoted 65 = .ok (.isub, 1) := by decide +kernel
theorem dX1_cutQuoted_66 : decode cX1_cutQuoted 66 = .ok (.invokevirtual 74, 3) := by decide +kernel
theorem dX1_cutQuoted_69 : decode cX1_cutQuoted 69 = .ok (.ireturn, 1) := by decide +kernel
set_option maxRecDepth 20000 in
theorem ggX1_cutOther_X4_byteAt : GoodIn wsX1_cutOther wsX4_byteAt := goodIn_r _ [7, 8, 9, 51, 52] (by decide +kernel) (by decide +kernel)
set_option maxRecDepth 20000 in
theorem gX1_cutOther_X4_byteAt : GoodIn wsX1_cutOther (wsV RX1 50 RX4 yX4_byteAt wsX4_byteAt) := goodIn_app (goodIn_of _ (by decide +kernel)) ggX1_cutOther_X4_byteAt
set_option maxRecDepth 20000 in
theorem ggX1_cutOther_X1_isOther : GoodIn wsX1_cutOther wsX1_isOther := goodIn_r _ [13, 14, 15, 12, 16, 17, 18, 19, 20, 21, 22, 23, 24, 25, 26, 27, 28, 29] (by decide +kernel) (by decide +kernel)
set_option maxRecDepth 20000 in
theorem gX1_cutOther_X1_isOther : GoodIn wsX1_cutOther (va_wsS RX1 123 yX1_isOther wsX1_isOther) := goodIn_app (goodIn_of _ (by decide +kernel)) ggX1_cutOther_X1_isOther
set_option maxRecDepth 20000 in
theorem ggX1_cutOther_X1_addUpTo : GoodIn wsX1_cutOther wsX1_addUpTo := goodIn_r _ [33, 34, 35, 36, 37, 38, 39, 40, 41, 42, 43, 44, 45, 46, 47, 48, 49, 50, 53, 54, 55, 56, 57, 58, 59] (by decide +kernel) (by decide +kernel)
set_option maxRecDepth 20000 in
theorem gX1_cutOther_X1_addUpTo : GoodIn wsX1_cutOther (wsV RX1 74 RX1 yX1_addUpTo wsX1_addUpTo) := goodIn_app (goodIn_of _ (by decide +kernel)) ggX1_cutOther_X1_addUpTo
theorem dX1_cutOther_0 : decode cX1_cutOther 0 = .ok (.iload_n 1, 1) := by decide +kernel
theorem dX1_cutOther_1 : decode cX1_cutOther 1 = .ok (.iconst 1, 1) := by decide +kernel
theorem dX1_cutOther_2 : decode cX1_cutOther 2 = .ok (.iadd, 1) := by decide +kernel
theorem dX1_cutOther_3 : decode cX1_cutOther 3 = .ok (.istore_n 2, 1) := by decide +kernel
theorem dX1_cutOther_4 : decode cX1_cutOther 4 = .ok (.iload_n 2, 1) := by decide +kernel
theorem dX1_cutOther_5 : decode cX1_cutOther 5 = .ok (.aload_n 0, 1) := by decide +kernel
theorem dX1_cutOther_6 : decode cX1_cutOther 6 = .ok (.getfield 19, 3) := by decide +kernel
theorem dX1_cutOther_9 : decode cX1_cutOther 9 = .ok (.getfield 37, 3) := by decide +kernel
theorem dX1_cutOther_12 : decode cX1_cutOther 12 = .ok (.if_icmp .ge 23, 3) := by decide +kernel
theorem dX1_cutOther_15 : decode cX1_cutOther 15 = .ok (.aload_n 0, 1) := by decide +kernel
theorem dX1_cutOther_16 : decode cX1_cutOther 16 = .ok (.getfield 19, 3) := by decide +kernel
theorem dX1_cutOther_19 : decode cX1_cutOther 19 = .ok (.iload_n 2, 1) := by decide +kernel
theorem dX1_cutOther_20 : decode cX1_cutOther 20 = .ok (.invokevirtual 50, 3) := by decide +kernel
theorem dX1_cutOther_23 : decode cX1_cutOther 23 = .ok (.invokestatic 123, 3) := by decide +kernel
theorem dX1_cutOther_26 : decode cX1_cutOther 26 = .ok (.ifCond .eq 9, 3) := by decide +kernel
theorem dX1_cutOther_29 : decode cX1_cutOther 29 = .ok (.iinc 2 1, 3) := by decide +kernel
theorem dX1_cutOther_32 : decode cX1_cutOther 32 = .ok (.goto (-28), 3) := by decide +kernel
theorem dX1_cutOther_35 : decode cX1_cutOther 35 = .ok (.aload_n 0, 1) := by decide +kernel
theorem dX1_cutOther_36 : decode cX1_cutOther 36 = .ok (.iload_n 2, 1) := by decide +kernel
theorem dX1_cutOther_37 : decode cX1_cutOther 37 = .ok (.bipush 6, 2) := by decide +kernel
theorem dX1_cutOther_39 : decode cX1_cutOther 39 = .ok (.iload_n 1, 1) := by decide +kernel
theorem dX1_cutOther_40 : decode cX1_cutOther 40 = .ok (.iconst (-1), 1) := by decide +kernel
theorem dX1_cutOther_41 : decode cX1_cutOther 41 = .ok (.invokevirtual 74, 3) := by decide +kernel
theorem dX1_cutOther_44 : decode cX1_cutOther 44 = .ok (.ireturn, 1) := by decide +kernel
set_option maxRecDepth 20000 in
theorem ggX1_endOfDigits_X4_byteAt : GoodIn wsX1_endOfDigits wsX4_byteAt := goodIn_r _ [7, 8, 9, 19, 20] (by decide +kernel) (by decide +kernel)
set_option maxRecDepth 20000 in
theorem gX1_endOfDigits_X4_byteAt : GoodIn wsX1_endOfDigits (wsV RX1 50 RX4 yX4_byteAt wsX4_byteAt) := goodIn_app (goodIn_of _ (by decide +kernel)) ggX1_endOfDigits_X4_byteAt
set_option maxRecDepth 20000 in
theorem ggX1_endOfDigits_X1_isDigit : GoodIn wsX1_endOfDigits wsX1_isDigit := goodIn_r _ [13] (by decide +kernel) (by decide +kernel)
set_option maxRecDepth 20000 in
theorem gX1_endOfDigits_X1_isDigit : GoodIn wsX1_endOfDigits (va_wsS RX1 62 yX1_isDigit wsX1_isDigit) := goodIn_app (goodIn_of _ (by decide +kernel)) ggX1_endOfDigits_X1_isDigit
theorem dX1_endOfDigits_0 : decode cX1_endOfDigits 0 = .ok (.iload_n 1, 1) := by decide +kernel
theorem dX1_endOfDigits_1 : decode cX1_endOfDigits 1 = .ok (.istore_n 2, 1) := by decide +kernel
theorem dX1_endOfDigits_2 : decode cX1_endOfDigits 2 = .ok (.iload_n 2, 1) := by decide +kernel
theorem dX1_endOfDigits_3 : decode cX1_endOfDigits 3 = .ok (.aload_n 0, 1) := by decide +kernel
theorem dX1_endOfDigits_4 : decode cX1_endOfDigits 4 = .ok (.getfield 19, 3) := by decide +kernel
theorem dX1_endOfDigits_7 : decode cX1_endOfDigits 7 = .ok (.getfield 37, 3) := by decide +kernel
theorem dX1_endOfDigits_10 : decode cX1_endOfDigits 10 = .ok (.if_icmp .ge 23, 3) := by decide +kernel
theorem dX1_endOfDigits_13 : decode cX1_endOfDigits 13 = .ok (.aload_n 0, 1) := by decide +kernel
theorem dX1_endOfDigits_14 : decode cX1_endOfDigits 14 = .ok (.getfield 19, 3) := by decide +kernel
theorem dX1_endOfDigits_17 : decode cX1_endOfDigits 17 = .ok (.iload_n 2, 1) := by decide +kernel
theorem dX1_endOfDigits_18 : decode cX1_endOfDigits 18 = .ok (.invokevirtual 50, 3) := by decide +kernel
theorem dX1_endOfDigits_21 : decode cX1_endOfDigits 21 = .ok (.invokestatic 62, 3) := by decide +kernel
theorem dX1_endOfDigits_24 : decode cX1_endOfDigits 24 = .ok (.ifCond .eq 9, 3) := by decide +kernel
theorem dX1_endOfDigits_27 : decode cX1_endOfDigits 27 = .ok (.iinc 2 1, 3) := by decide +kernel
theorem dX1_endOfDigits_30 : decode cX1_endOfDigits 30 = .ok (.goto (-28), 3) := by decide +kernel
theorem dX1_endOfDigits_33 : decode cX1_endOfDigits 33 = .ok (.iload_n 2, 1) := by decide +kernel
theorem dX1_endOfDigits_34 : decode cX1_endOfDigits 34 = .ok (.ireturn, 1) := by decide +kernel
set_option maxRecDepth 20000 in
theorem ggX1_numberOf_X4_byteAt : GoodIn wsX1_numberOf wsX4_byteAt := goodIn_r _ [10, 11, 12, 18, 19] (by decide +kernel) (by decide +kernel)
set_option maxRecDepth 20000 in
theorem gX1_numberOf_X4_byteAt : GoodIn wsX1_numberOf (wsV RX1 50 RX4 yX4_byteAt wsX4_byteAt) := goodIn_app (goodIn_of _ (by decide +kernel)) ggX1_numberOf_X4_byteAt
theorem dX1_numberOf_0 : decode cX1_numberOf 0 = .ok (.iconst 0, 1) := by decide +kernel
theorem dX1_numberOf_1 : decode cX1_numberOf 1 = .ok (.istore_n 3, 1) := by decide +kernel
theorem dX1_numberOf_2 : decode cX1_numberOf 2 = .ok (.iload_n 1, 1) := by decide +kernel
theorem dX1_numberOf_3 : decode cX1_numberOf 3 = .ok (.istore 4, 2) := by decide +kernel
theorem dX1_numberOf_5 : decode cX1_numberOf 5 = .ok (.iload 4, 2) := by decide +kernel
theorem dX1_numberOf_7 : decode cX1_numberOf 7 = .ok (.iload_n 2, 1) := by decide +kernel
theorem dX1_numberOf_8 : decode cX1_numberOf 8 = .ok (.if_icmp .ge 33, 3) := by decide +kernel
theorem dX1_numberOf_11 : decode cX1_numberOf 11 = .ok (.bipush 10, 2) := by decide +kernel
theorem dX1_numberOf_13 : decode cX1_numberOf 13 = .ok (.iload_n 3, 1) := by decide +kernel
theorem dX1_numberOf_14 : decode cX1_numberOf 14 = .ok (.imul, 1) := by decide +kernel
theorem dX1_numberOf_15 : decode cX1_numberOf 15 = .ok (.aload_n 0, 1) := by decide +kernel
theorem dX1_numberOf_16 : decode cX1_numberOf 16 = .ok (.getfield 19, 3) := by decide +kernel
theorem dX1_numberOf_19 : decode cX1_numberOf 19 = .ok (.iload 4, 2) := by decide +kernel
theorem dX1_numberOf_21 : decode cX1_numberOf 21 = .ok (.invokevirtual 50, 3) := by decide +kernel
theorem dX1_numberOf_24 : decode cX1_numberOf 24 = .ok (.iadd, 1) := by decide +kernel
theorem dX1_numberOf_25 : decode cX1_numberOf 25 = .ok (.bipush 48, 2) := by decide +kernel
theorem dX1_numberOf_27 : decode cX1_numberOf 27 = .ok (.isub, 1) := by decide +kernel
theorem dX1_numberOf_28 : decode cX1_numberOf 28 = .ok (.sipush 30001, 3) := by decide +kernel
theorem dX1_numberOf_31 : decode cX1_numberOf 31 = .ok (.invokestatic 126, 3) := by decide +kernel
theorem dX1_numberOf_34 : decode cX1_numberOf 34 = .ok (.istore_n 3, 1) := by decide +kernel
theorem dX1_numberOf_35 : decode cX1_numberOf 35 = .ok (.iinc 4 1, 3) := by decide +kernel
theorem dX1_numberOf_38 : decode cX1_numberOf 38 = .ok (.goto (-33), 3) := by decide +kernel
theorem dX1_numberOf_41 : decode cX1_numberOf 41 = .ok (.iload_n 3, 1) := by decide +kernel
theorem dX1_numberOf_42 : decode cX1_numberOf 42 = .ok (.ireturn, 1) := by decide +kernel
theorem dX1_isDigit_0 : decode cX1_isDigit 0 = .ok (.iload_n 0, 1) := by decide +kernel
theorem dX1_isDigit_1 : decode cX1_isDigit 1 = .ok (.bipush 48, 2) := by decide +kernel
theorem dX1_isDigit_3 : decode cX1_isDigit 3 = .ok (.if_icmp .lt 13, 3) := by decide +kernel
theorem dX1_isDigit_6 : decode cX1_isDigit 6 = .ok (.iload_n 0, 1) := by decide +kernel
theorem dX1_isDigit_7 : decode cX1_isDigit 7 = .ok (.bipush 57, 2) := by decide +kernel
theorem dX1_isDigit_9 : decode cX1_isDigit 9 = .ok (.if_icmp .gt 7, 3) := by decide +kernel
theorem dX1_isDigit_12 : decode cX1_isDigit 12 = .ok (.iconst 1, 1) := by decide +kernel
theorem dX1_isDigit_13 : decode cX1_isDigit 13 = .ok (.goto 4, 3) := by decide +kernel
theorem dX1_isDigit_16 : decode cX1_isDigit 16 = .ok (.iconst 0, 1) := by decide +kernel
theorem dX1_isDigit_17 : decode cX1_isDigit 17 = .ok (.ireturn, 1) := by decide +kernel
theorem dX1_isMark_0 : decode cX1_isMark 0 = .ok (.iload_n 0, 1) := by decide +kernel
theorem dX1_isMark_1 : decode cX1_isMark 1 = .ok (.bipush 46, 2) := by decide +kernel
theorem dX1_isMark_3 : decode cX1_isMark 3 = .ok (.if_icmp .eq 27, 3) := by decide +kernel
theorem dX1_isMark_6 : decode cX1_isMark 6 = .ok (.iload_n 0, 1) := by decide +kernel
theorem dX1_isMark_7 : decode cX1_isMark 7 = .ok (.bipush 44, 2) := by decide +kernel
theorem dX1_isMark_9 : decode cX1_isMark 9 = .ok (.if_icmp .eq 21, 3) := by decide +kernel
theorem dX1_isMark_12 : decode cX1_isMark 12 = .ok (.iload_n 0, 1) := by decide +kernel
theorem dX1_isMark_13 : decode cX1_isMark 13 = .ok (.bipush 59, 2) := by decide +kernel
theorem dX1_isMark_15 : decode cX1_isMark 15 = .ok (.if_icmp .eq 15, 3) := by decide +kernel
theorem dX1_isMark_18 : decode cX1_isMark 18 = .ok (.iload_n 0, 1) := by decide +kernel
theorem dX1_isMark_19 : decode cX1_isMark 19 = .ok (.bipush 33, 2) := by decide +kernel
theorem dX1_isMark_21 : decode cX1_isMark 21 = .ok (.if_icmp .eq 9, 3) := by decide +kernel
theorem dX1_isMark_24 : decode cX1_isMark 24 = .ok (.iload_n 0, 1) := by decide +kernel
end
section
theorem dX1_isMark_25 : decode cX1_isMark 25 = .ok (.bipush 63, 2) := by decide +kernel
theorem dX1_isMark_27 : decode cX1_isMark 27 = .ok (.if_icmp .ne 7, 3) := by decide +kernel
theorem dX1_isMark_30 : decode cX1_isMark 30 = .ok (.iconst 1, 1) := by decide +kernel
theorem dX1_isMark_31 : decode cX1_isMark 31 = .ok (.goto 4, 3) := by decide +kernel
theorem dX1_isMark_34 : decode cX1_isMark 34 = .ok (.iconst 0, 1) := by decide +kernel
theorem dX1_isMark_35 : decode cX1_isMark 35 = .ok (.ireturn, 1) := by decide +kernel
set_option maxRecDepth 20000 in
theorem ggX1_isOther_X1_isMark : GoodIn wsX1_isOther wsX1_isMark := goodIn_r _ [4] (by decide +kernel) (by decide +kernel)
set_option maxRecDepth 20000 in
theorem gX1_isOther_X1_isMark : GoodIn wsX1_isOther (va_wsS RX1 71 yX1_isMark wsX1_isMark) := goodIn_app (goodIn_of _ (by decide +kernel)) ggX1_isOther_X1_isMark
set_option maxRecDepth 20000 in
theorem ggX1_isOther_X1_isDigit : GoodIn wsX1_isOther wsX1_isDigit := goodIn_r _ [7] (by decide +kernel) (by decide +kernel)
set_option maxRecDepth 20000 in
theorem gX1_isOther_X1_isDigit : GoodIn wsX1_isOther (va_wsS RX1 62 yX1_isDigit wsX1_isDigit) := goodIn_app (goodIn_of _ (by decide +kernel)) ggX1_isOther_X1_isDigit
set_option maxRecDepth 20000 in
theorem ggX1_isOther_X3_isLetter : GoodIn wsX1_isOther wsX3_isLetter := goodIn_r _ [11, 12, 13, 10, 14, 15, 16, 17] (by decide +kernel) (by decide +kernel)
set_option maxRecDepth 20000 in
theorem gX1_isOther_X3_isLetter : GoodIn wsX1_isOther (va_wsS RX1 53 yX3_isLetter wsX3_isLetter) := goodIn_app (goodIn_of _ (by decide +kernel)) ggX1_isOther_X3_isLetter
theorem dX1_isOther_0 : decode cX1_isOther 0 = .ok (.iload_n 0, 1) := by decide +kernel
theorem dX1_isOther_1 : decode cX1_isOther 1 = .ok (.bipush 32, 2) := by decide +kernel
theorem dX1_isOther_3 : decode cX1_isOther 3 = .ok (.if_icmp .eq 34, 3) := by decide +kernel
theorem dX1_isOther_6 : decode cX1_isOther 6 = .ok (.iload_n 0, 1) := by decide +kernel
theorem dX1_isOther_7 : decode cX1_isOther 7 = .ok (.bipush 34, 2) := by decide +kernel
theorem dX1_isOther_9 : decode cX1_isOther 9 = .ok (.if_icmp .eq 28, 3) := by decide +kernel
theorem dX1_isOther_12 : decode cX1_isOther 12 = .ok (.iload_n 0, 1) := by decide +kernel
theorem dX1_isOther_13 : decode cX1_isOther 13 = .ok (.invokestatic 71, 3) := by decide +kernel
theorem dX1_isOther_16 : decode cX1_isOther 16 = .ok (.ifCond .ne 21, 3) := by decide +kernel
theorem dX1_isOther_19 : decode cX1_isOther 19 = .ok (.iload_n 0, 1) := by decide +kernel
theorem dX1_isOther_20 : decode cX1_isOther 20 = .ok (.invokestatic 62, 3) := by decide +kernel
theorem dX1_isOther_23 : decode cX1_isOther 23 = .ok (.ifCond .ne 14, 3) := by decide +kernel
theorem dX1_isOther_26 : decode cX1_isOther 26 = .ok (.iload_n 0, 1) := by decide +kernel
theorem dX1_isOther_27 : decode cX1_isOther 27 = .ok (.invokestatic 53, 3) := by decide +kernel
theorem dX1_isOther_30 : decode cX1_isOther 30 = .ok (.ifCond .ne 7, 3) := by decide +kernel
theorem dX1_isOther_33 : decode cX1_isOther 33 = .ok (.iconst 1, 1) := by decide +kernel
theorem dX1_isOther_34 : decode cX1_isOther 34 = .ok (.goto 4, 3) := by decide +kernel
theorem dX1_isOther_37 : decode cX1_isOther 37 = .ok (.iconst 0, 1) := by decide +kernel
theorem dX1_isOther_38 : decode cX1_isOther 38 = .ok (.ireturn, 1) := by decide +kernel
set_option maxRecDepth 20000 in
theorem ggX2_init_X4_init : GoodIn wsX2_init wsX4_init := goodIn_r _ [13, 14, 2, 3, 15, 16, 17, 18, 19, 20, 38, 39] (by decide +kernel) (by decide +kernel)
set_option maxRecDepth 20000 in
theorem gX2_init_X4_init : GoodIn wsX2_init (wsX4_init) := ggX2_init_X4_init
set_option maxRecDepth 20000 in
theorem ggX2_init_X4_copyFrom : GoodIn wsX2_init wsX4_copyFrom := goodIn_r _ [24, 25, 26, 27, 28, 6, 29, 30, 31, 32, 33, 20, 34, 35, 36, 37, 38, 39] (by decide +kernel) (by decide +kernel)
set_option maxRecDepth 20000 in
theorem gX2_init_X4_copyFrom : GoodIn wsX2_init (wsV RX2 22 RX4 yX4_copyFrom wsX4_copyFrom) := goodIn_app (goodIn_of _ (by decide +kernel)) ggX2_init_X4_copyFrom
theorem dX2_init_0 : decode cX2_init 0 = .ok (.aload_n 0, 1) := by decide +kernel
theorem dX2_init_1 : decode cX2_init 1 = .ok (.invokespecial 1, 3) := by decide +kernel
theorem dX2_init_4 : decode cX2_init 4 = .ok (.aload_n 0, 1) := by decide +kernel
theorem dX2_init_5 : decode cX2_init 5 = .ok (.new 7, 3) := by decide +kernel
theorem dX2_init_8 : decode cX2_init 8 = .ok (.dup, 1) := by decide +kernel
theorem dX2_init_9 : decode cX2_init 9 = .ok (.aload_n 1, 1) := by decide +kernel
theorem dX2_init_10 : decode cX2_init 10 = .ok (.getfield 9, 3) := by decide +kernel
theorem dX2_init_13 : decode cX2_init 13 = .ok (.invokespecial 13, 3) := by decide +kernel
theorem dX2_init_16 : decode cX2_init 16 = .ok (.putfield 16, 3) := by decide +kernel
theorem dX2_init_19 : decode cX2_init 19 = .ok (.aload_n 0, 1) := by decide +kernel
theorem dX2_init_20 : decode cX2_init 20 = .ok (.getfield 16, 3) := by decide +kernel
theorem dX2_init_23 : decode cX2_init 23 = .ok (.aload_n 1, 1) := by decide +kernel
theorem dX2_init_24 : decode cX2_init 24 = .ok (.invokevirtual 22, 3) := by decide +kernel
theorem dX2_init_27 : decode cX2_init 27 = .ok (.aload_n 0, 1) := by decide +kernel
theorem dX2_init_28 : decode cX2_init 28 = .ok (.iload_n 2, 1) := by decide +kernel
theorem dX2_init_29 : decode cX2_init 29 = .ok (.putfield 26, 3) := by decide +kernel
theorem dX2_init_32 : decode cX2_init 32 = .ok (.aload_n 0, 1) := by decide +kernel
theorem dX2_init_33 : decode cX2_init 33 = .ok (.iload_n 3, 1) := by decide +kernel
theorem dX2_init_34 : decode cX2_init 34 = .ok (.putfield 29, 3) := by decide +kernel
theorem dX2_init_37 : decode cX2_init 37 = .ok (.return_, 1) := by decide +kernel
theorem dX3_init_0 : decode cX3_init 0 = .ok (.aload_n 0, 1) := by decide +kernel
theorem dX3_init_1 : decode cX3_init 1 = .ok (.invokespecial 1, 3) := by decide +kernel
theorem dX3_init_4 : decode cX3_init 4 = .ok (.aload_n 0, 1) := by decide +kernel
theorem dX3_init_5 : decode cX3_init 5 = .ok (.iload_n 1, 1) := by decide +kernel
theorem dX3_init_6 : decode cX3_init 6 = .ok (.putfield 7, 3) := by decide +kernel
theorem dX3_init_9 : decode cX3_init 9 = .ok (.aload_n 0, 1) := by decide +kernel
theorem dX3_init_10 : decode cX3_init 10 = .ok (.bipush 32, 2) := by decide +kernel
theorem dX3_init_12 : decode cX3_init 12 = .ok (.newarray .int, 2) := by decide +kernel
theorem dX3_init_14 : decode cX3_init 14 = .ok (.putfield 13, 3) := by decide +kernel
theorem dX3_init_17 : decode cX3_init 17 = .ok (.iconst 0, 1) := by decide +kernel
theorem dX3_init_18 : decode cX3_init 18 = .ok (.istore_n 2, 1) := by decide +kernel
theorem dX3_init_19 : decode cX3_init 19 = .ok (.iload_n 2, 1) := by decide +kernel
theorem dX3_init_20 : decode cX3_init 20 = .ok (.aload_n 0, 1) := by decide +kernel
theorem dX3_init_21 : decode cX3_init 21 = .ok (.getfield 13, 3) := by decide +kernel
theorem dX3_init_24 : decode cX3_init 24 = .ok (.arraylength, 1) := by decide +kernel
theorem dX3_init_25 : decode cX3_init 25 = .ok (.if_icmp .ge 20, 3) := by decide +kernel
theorem dX3_init_28 : decode cX3_init 28 = .ok (.aload_n 0, 1) := by decide +kernel
theorem dX3_init_29 : decode cX3_init 29 = .ok (.getfield 13, 3) := by decide +kernel
theorem dX3_init_32 : decode cX3_init 32 = .ok (.iload_n 2, 1) := by decide +kernel
theorem dX3_init_33 : decode cX3_init 33 = .ok (.sipush 128, 3) := by decide +kernel
theorem dX3_init_36 : decode cX3_init 36 = .ok (.iload_n 2, 1) := by decide +kernel
theorem dX3_init_37 : decode cX3_init 37 = .ok (.iadd, 1) := by decide +kernel
theorem dX3_init_38 : decode cX3_init 38 = .ok (.iastore, 1) := by decide +kernel
theorem dX3_init_39 : decode cX3_init 39 = .ok (.iinc 2 1, 3) := by decide +kernel
theorem dX3_init_42 : decode cX3_init 42 = .ok (.goto (-23), 3) := by decide +kernel
theorem dX3_init_45 : decode cX3_init 45 = .ok (.return_, 1) := by decide +kernel
theorem dX3_isSmall_0 : decode cX3_isSmall 0 = .ok (.iload_n 0, 1) := by decide +kernel
theorem dX3_isSmall_1 : decode cX3_isSmall 1 = .ok (.bipush 97, 2) := by decide +kernel
theorem dX3_isSmall_3 : decode cX3_isSmall 3 = .ok (.if_icmp .lt 13, 3) := by decide +kernel
theorem dX3_isSmall_6 : decode cX3_isSmall 6 = .ok (.iload_n 0, 1) := by decide +kernel
theorem dX3_isSmall_7 : decode cX3_isSmall 7 = .ok (.bipush 122, 2) := by decide +kernel
theorem dX3_isSmall_9 : decode cX3_isSmall 9 = .ok (.if_icmp .gt 7, 3) := by decide +kernel
theorem dX3_isSmall_12 : decode cX3_isSmall 12 = .ok (.iconst 1, 1) := by decide +kernel
theorem dX3_isSmall_13 : decode cX3_isSmall 13 = .ok (.goto 4, 3) := by decide +kernel
theorem dX3_isSmall_16 : decode cX3_isSmall 16 = .ok (.iconst 0, 1) := by decide +kernel
theorem dX3_isSmall_17 : decode cX3_isSmall 17 = .ok (.ireturn, 1) := by decide +kernel
theorem dX3_isFoldable_0 : decode cX3_isFoldable 0 = .ok (.iload_n 0, 1) := by decide +kernel
theorem dX3_isFoldable_1 : decode cX3_isFoldable 1 = .ok (.sipush 128, 3) := by decide +kernel
theorem dX3_isFoldable_4 : decode cX3_isFoldable 4 = .ok (.if_icmp .lt 14, 3) := by decide +kernel
theorem dX3_isFoldable_7 : decode cX3_isFoldable 7 = .ok (.iload_n 0, 1) := by decide +kernel
theorem dX3_isFoldable_8 : decode cX3_isFoldable 8 = .ok (.sipush 159, 3) := by decide +kernel
theorem dX3_isFoldable_11 : decode cX3_isFoldable 11 = .ok (.if_icmp .gt 7, 3) := by decide +kernel
theorem dX3_isFoldable_14 : decode cX3_isFoldable 14 = .ok (.iconst 1, 1) := by decide +kernel
theorem dX3_isFoldable_15 : decode cX3_isFoldable 15 = .ok (.goto 4, 3) := by decide +kernel
theorem dX3_isFoldable_18 : decode cX3_isFoldable 18 = .ok (.iconst 0, 1) := by decide +kernel
theorem dX3_isFoldable_19 : decode cX3_isFoldable 19 = .ok (.ireturn, 1) := by decide +kernel
set_option maxRecDepth 20000 in
theorem ggX3_isLetter_X3_isSmall : GoodIn wsX3_isLetter wsX3_isSmall := goodIn_r _ [4] (by decide +kernel) (by decide +kernel)
set_option maxRecDepth 20000 in
theorem gX3_isLetter_X3_isSmall : GoodIn wsX3_isLetter (va_wsS RX3 17 yX3_isSmall wsX3_isSmall) := goodIn_app (goodIn_of _ (by decide +kernel)) ggX3_isLetter_X3_isSmall
set_option maxRecDepth 20000 in
theorem ggX3_isLetter_X3_isFoldable : GoodIn wsX3_isLetter wsX3_isFoldable := goodIn_r _ [7] (by decide +kernel) (by decide +kernel)
set_option maxRecDepth 20000 in
theorem gX3_isLetter_X3_isFoldable : GoodIn wsX3_isLetter (va_wsS RX3 21 yX3_isFoldable wsX3_isFoldable) := goodIn_app (goodIn_of _ (by decide +kernel)) ggX3_isLetter_X3_isFoldable
theorem dX3_isLetter_0 : decode cX3_isLetter 0 = .ok (.iload_n 0, 1) := by decide +kernel
theorem dX3_isLetter_1 : decode cX3_isLetter 1 = .ok (.bipush 65, 2) := by decide +kernel
theorem dX3_isLetter_3 : decode cX3_isLetter 3 = .ok (.if_icmp .lt 9, 3) := by decide +kernel
theorem dX3_isLetter_6 : decode cX3_isLetter 6 = .ok (.iload_n 0, 1) := by decide +kernel
theorem dX3_isLetter_7 : decode cX3_isLetter 7 = .ok (.bipush 90, 2) := by decide +kernel
theorem dX3_isLetter_9 : decode cX3_isLetter 9 = .ok (.if_icmp .le 17, 3) := by decide +kernel
theorem dX3_isLetter_12 : decode cX3_isLetter 12 = .ok (.iload_n 0, 1) := by decide +kernel
theorem dX3_isLetter_13 : decode cX3_isLetter 13 = .ok (.invokestatic 17, 3) := by decide +kernel
theorem dX3_isLetter_16 : decode cX3_isLetter 16 = .ok (.ifCond .ne 10, 3) := by decide +kernel
theorem dX3_isLetter_19 : decode cX3_isLetter 19 = .ok (.iload_n 0, 1) := by decide +kernel
theorem dX3_isLetter_20 : decode cX3_isLetter 20 = .ok (.invokestatic 21, 3) := by decide +kernel
theorem dX3_isLetter_23 : decode cX3_isLetter 23 = .ok (.ifCond .eq 7, 3) := by decide +kernel
theorem dX3_isLetter_26 : decode cX3_isLetter 26 = .ok (.iconst 1, 1) := by decide +kernel
theorem dX3_isLetter_27 : decode cX3_isLetter 27 = .ok (.goto 4, 3) := by decide +kernel
theorem dX3_isLetter_30 : decode cX3_isLetter 30 = .ok (.iconst 0, 1) := by decide +kernel
theorem dX3_isLetter_31 : decode cX3_isLetter 31 = .ok (.ireturn, 1) := by decide +kernel
theorem dX3_folded_0 : decode cX3_folded 0 = .ok (.iload_n 1, 1) := by decide +kernel
theorem dX3_folded_1 : decode cX3_folded 1 = .ok (.sipush 128, 3) := by decide +kernel
theorem dX3_folded_4 : decode cX3_folded 4 = .ok (.isub, 1) := by decide +kernel
theorem dX3_folded_5 : decode cX3_folded 5 = .ok (.istore_n 2, 1) := by decide +kernel
theorem dX3_folded_6 : decode cX3_folded 6 = .ok (.iload_n 2, 1) := by decide +kernel
theorem dX3_folded_7 : decode cX3_folded 7 = .ok (.ifCond .lt 19, 3) := by decide +kernel
theorem dX3_folded_10 : decode cX3_folded 10 = .ok (.iload_n 2, 1) := by decide +kernel
theorem dX3_folded_11 : decode cX3_folded 11 = .ok (.aload_n 0, 1) := by decide +kernel
theorem dX3_folded_12 : decode cX3_folded 12 = .ok (.getfield 13, 3) := by decide +kernel
theorem dX3_folded_15 : decode cX3_folded 15 = .ok (.arraylength, 1) := by decide +kernel
theorem dX3_folded_16 : decode cX3_folded 16 = .ok (.if_icmp .ge 10, 3) := by decide +kernel
theorem dX3_folded_19 : decode cX3_folded 19 = .ok (.aload_n 0, 1) := by decide +kernel
theorem dX3_folded_20 : decode cX3_folded 20 = .ok (.getfield 13, 3) := by decide +kernel
theorem dX3_folded_23 : decode cX3_folded 23 = .ok (.iload_n 2, 1) := by decide +kernel
theorem dX3_folded_24 : decode cX3_folded 24 = .ok (.iaload, 1) := by decide +kernel
theorem dX3_folded_25 : decode cX3_folded 25 = .ok (.ireturn, 1) := by decide +kernel
theorem dX3_folded_26 : decode cX3_folded 26 = .ok (.iload_n 1, 1) := by decide +kernel
theorem dX3_folded_27 : decode cX3_folded 27 = .ok (.bipush 65, 2) := by decide +kernel
theorem dX3_folded_29 : decode cX3_folded 29 = .ok (.if_icmp .lt 19, 3) := by decide +kernel
theorem dX3_folded_32 : decode cX3_folded 32 = .ok (.iload_n 1, 1) := by decide +kernel
theorem dX3_folded_33 : decode cX3_folded 33 = .ok (.bipush 90, 2) := by decide +kernel
theorem dX3_folded_35 : decode cX3_folded 35 = .ok (.if_icmp .gt 13, 3) := by decide +kernel
theorem dX3_folded_38 : decode cX3_folded 38 = .ok (.iload_n 1, 1) := by decide +kernel
theorem dX3_folded_39 : decode cX3_folded 39 = .ok (.bipush 65, 2) := by decide +kernel
theorem dX3_folded_41 : decode cX3_folded 41 = .ok (.isub, 1) := by decide +kernel
theorem dX3_folded_42 : decode cX3_folded 42 = .ok (.bipush 97, 2) := by decide +kernel
theorem dX3_folded_44 : decode cX3_folded 44 = .ok (.iadd, 1) := by decide +kernel
theorem dX3_folded_45 : decode cX3_folded 45 = .ok (.goto 4, 3) := by decide +kernel
theorem dX3_folded_48 : decode cX3_folded 48 = .ok (.iload_n 1, 1) := by decide +kernel
theorem dX3_folded_49 : decode cX3_folded 49 = .ok (.ireturn, 1) := by decide +kernel
theorem dX3_changeFold_0 : decode cX3_changeFold 0 = .ok (.iload_n 1, 1) := by decide +kernel
theorem dX3_changeFold_1 : decode cX3_changeFold 1 = .ok (.sipush 128, 3) := by decide +kernel
theorem dX3_changeFold_4 : decode cX3_changeFold 4 = .ok (.isub, 1) := by decide +kernel
theorem dX3_changeFold_5 : decode cX3_changeFold 5 = .ok (.istore_n 3, 1) := by decide +kernel
theorem dX3_changeFold_6 : decode cX3_changeFold 6 = .ok (.iload_n 3, 1) := by decide +kernel
theorem dX3_changeFold_7 : decode cX3_changeFold 7 = .ok (.ifCond .lt 19, 3) := by decide +kernel
theorem dX3_changeFold_10 : decode cX3_changeFold 10 = .ok (.iload_n 3, 1) := by decide +kernel
theorem dX3_changeFold_11 : decode cX3_changeFold 11 = .ok (.aload_n 0, 1) := by decide +kernel
theorem dX3_changeFold_12 : decode cX3_changeFold 12 = .ok (.getfield 13, 3) := by decide +kernel
theorem dX3_changeFold_15 : decode cX3_changeFold 15 = .ok (.arraylength, 1) := by decide +kernel
theorem dX3_changeFold_16 : decode cX3_changeFold 16 = .ok (.if_icmp .ge 10, 3) := by decide +kernel
theorem dX3_changeFold_19 : decode cX3_changeFold 19 = .ok (.aload_n 0, 1) := by decide +kernel
theorem dX3_changeFold_20 : decode cX3_changeFold 20 = .ok (.getfield 13, 3) := by decide +kernel
theorem dX3_changeFold_23 : decode cX3_changeFold 23 = .ok (.iload_n 3, 1) := by decide +kernel
theorem dX3_changeFold_24 : decode cX3_changeFold 24 = .ok (.iload_n 2, 1) := by decide +kernel
theorem dX3_changeFold_25 : decode cX3_changeFold 25 = .ok (.iastore, 1) := by decide +kernel
theorem dX3_changeFold_26 : decode cX3_changeFold 26 = .ok (.return_, 1) := by decide +kernel
set_option maxRecDepth 20000 in
theorem ggX3_areLike_X4_byteAt : GoodIn wsX3_areLike wsX4_byteAt := goodIn_r _ [11, 12, 13, 20, 21] (by decide +kernel) (by decide +kernel)
set_option maxRecDepth 20000 in
theorem gX3_areLike_X4_byteAt : GoodIn wsX3_areLike (wsV RX3 35 RX4 yX4_byteAt wsX4_byteAt) := goodIn_app (goodIn_of _ (by decide +kernel)) ggX3_areLike_X4_byteAt
set_option maxRecDepth 20000 in
theorem ggX3_areLike_X3_folded : GoodIn wsX3_areLike wsX3_folded := goodIn_r _ [18, 19, 22, 23] (by decide +kernel) (by decide +kernel)
set_option maxRecDepth 20000 in
theorem gX3_areLike_X3_folded : GoodIn wsX3_areLike (wsV RX3 39 RX3 yX3_folded wsX3_folded) := goodIn_app (goodIn_of _ (by decide +kernel)) ggX3_areLike_X3_folded
theorem dX3_areLike_0 : decode cX3_areLike 0 = .ok (.aload_n 1, 1) := by decide +kernel
theorem dX3_areLike_1 : decode cX3_areLike 1 = .ok (.getfield 24, 3) := by decide +kernel
theorem dX3_areLike_4 : decode cX3_areLike 4 = .ok (.aload_n 0, 1) := by decide +kernel
theorem dX3_areLike_5 : decode cX3_areLike 5 = .ok (.getfield 7, 3) := by decide +kernel
theorem dX3_areLike_8 : decode cX3_areLike 8 = .ok (.invokestatic 29, 3) := by decide +kernel
theorem dX3_areLike_11 : decode cX3_areLike 11 = .ok (.istore 5, 2) := by decide +kernel
theorem dX3_areLike_13 : decode cX3_areLike 13 = .ok (.iload 5, 2) := by decide +kernel
theorem dX3_areLike_15 : decode cX3_areLike 15 = .ok (.iload 4, 2) := by decide +kernel
theorem dX3_areLike_17 : decode cX3_areLike 17 = .ok (.aload_n 0, 1) := by decide +kernel
theorem dX3_areLike_18 : decode cX3_areLike 18 = .ok (.getfield 7, 3) := by decide +kernel
theorem dX3_areLike_21 : decode cX3_areLike 21 = .ok (.invokestatic 29, 3) := by decide +kernel
theorem dX3_areLike_24 : decode cX3_areLike 24 = .ok (.if_icmp .eq 5, 3) := by decide +kernel
theorem dX3_areLike_27 : decode cX3_areLike 27 = .ok (.iconst 0, 1) := by decide +kernel
theorem dX3_areLike_28 : decode cX3_areLike 28 = .ok (.ireturn, 1) := by decide +kernel
theorem dX3_areLike_29 : decode cX3_areLike 29 = .ok (.iconst 0, 1) := by decide +kernel
theorem dX3_areLike_30 : decode cX3_areLike 30 = .ok (.istore 6, 2) := by decide +kernel
theorem dX3_areLike_32 : decode cX3_areLike 32 = .ok (.iload 6, 2) := by decide +kernel
theorem dX3_areLike_34 : decode cX3_areLike 34 = .ok (.iload 5, 2) := by decide +kernel
theorem dX3_areLike_36 : decode cX3_areLike 36 = .ok (.if_icmp .ge 36, 3) := by decide +kernel
theorem dX3_areLike_39 : decode cX3_areLike 39 = .ok (.aload_n 0, 1) := by decide +kernel
theorem dX3_areLike_40 : decode cX3_areLike 40 = .ok (.aload_n 1, 1) := by decide +kernel
theorem dX3_areLike_41 : decode cX3_areLike 41 = .ok (.iload 6, 2) := by decide +kernel
theorem dX3_areLike_43 : decode cX3_areLike 43 = .ok (.invokevirtual 35, 3) := by decide +kernel
theorem dX3_areLike_46 : decode cX3_areLike 46 = .ok (.invokevirtual 39, 3) := by decide +kernel
theorem dX3_areLike_49 : decode cX3_areLike 49 = .ok (.aload_n 0, 1) := by decide +kernel
theorem dX3_areLike_50 : decode cX3_areLike 50 = .ok (.aload_n 2, 1) := by decide +kernel
theorem dX3_areLike_51 : decode cX3_areLike 51 = .ok (.iload_n 3, 1) := by decide +kernel
theorem dX3_areLike_52 : decode cX3_areLike 52 = .ok (.iload 6, 2) := by decide +kernel
theorem dX3_areLike_54 : decode cX3_areLike 54 = .ok (.iadd, 1) := by decide +kernel
theorem dX3_areLike_55 : decode cX3_areLike 55 = .ok (.invokevirtual 35, 3) := by decide +kernel
theorem dX3_areLike_58 : decode cX3_areLike 58 = .ok (.invokevirtual 39, 3) := by decide +kernel
theorem dX3_areLike_61 : decode cX3_areLike 61 = .ok (.if_icmp .eq 5, 3) := by decide +kernel
theorem dX3_areLike_64 : decode cX3_areLike 64 = .ok (.iconst 0, 1) := by decide +kernel
theorem dX3_areLike_65 : decode cX3_areLike 65 = .ok (.ireturn, 1) := by decide +kernel
theorem dX3_areLike_66 : decode cX3_areLike 66 = .ok (.iinc 6 1, 3) := by decide +kernel
theorem dX3_areLike_69 : decode cX3_areLike 69 = .ok (.goto (-37), 3) := by decide +kernel
theorem dX3_areLike_72 : decode cX3_areLike 72 = .ok (.iconst 1, 1) := by decide +kernel
theorem dX3_areLike_73 : decode cX3_areLike 73 = .ok (.ireturn, 1) := by decide +kernel
theorem dX4_init_0 : decode cX4_init 0 = .ok (.aload_n 0, 1) := by decide +kernel
theorem dX4_init_1 : decode cX4_init 1 = .ok (.invokespecial 3, 3) := by decide +kernel
theorem dX4_init_4 : decode cX4_init 4 = .ok (.aload_n 0, 1) := by decide +kernel
theorem dX4_init_5 : decode cX4_init 5 = .ok (.iconst 0, 1) := by decide +kernel
theorem dX4_init_6 : decode cX4_init 6 = .ok (.iload_n 1, 1) := by decide +kernel
theorem dX4_init_7 : decode cX4_init 7 = .ok (.invokestatic 9, 3) := by decide +kernel
theorem dX4_init_10 : decode cX4_init 10 = .ok (.newarray .int, 2) := by decide +kernel
theorem dX4_init_12 : decode cX4_init 12 = .ok (.putfield 15, 3) := by decide +kernel
theorem dX4_init_15 : decode cX4_init 15 = .ok (.return_, 1) := by decide +kernel
theorem dX4_isFull_0 : decode cX4_isFull 0 = .ok (.aload_n 0, 1) := by decide +kernel
theorem dX4_isFull_1 : decode cX4_isFull 1 = .ok (.getfield 21, 3) := by decide +kernel
theorem dX4_isFull_4 : decode cX4_isFull 4 = .ok (.aload_n 0, 1) := by decide +kernel
theorem dX4_isFull_5 : decode cX4_isFull 5 = .ok (.getfield 15, 3) := by decide +kernel
theorem dX4_isFull_8 : decode cX4_isFull 8 = .ok (.arraylength, 1) := by decide +kernel
theorem dX4_isFull_9 : decode cX4_isFull 9 = .ok (.if_icmp .lt 7, 3) := by decide +kernel
theorem dX4_isFull_12 : decode cX4_isFull 12 = .ok (.iconst 1, 1) := by decide +kernel
theorem dX4_isFull_13 : decode cX4_isFull 13 = .ok (.goto 4, 3) := by decide +kernel
theorem dX4_isFull_16 : decode cX4_isFull 16 = .ok (.iconst 0, 1) := by decide +kernel
theorem dX4_isFull_17 : decode cX4_isFull 17 = .ok (.ireturn, 1) := by decide +kernel
theorem dX4_put_0 : decode cX4_put 0 = .ok (.aload_n 0, 1) := by decide +kernel
theorem dX4_put_1 : decode cX4_put 1 = .ok (.getfield 21, 3) := by decide +kernel
theorem dX4_put_4 : decode cX4_put 4 = .ok (.ifCond .lt 35, 3) := by decide +kernel
theorem dX4_put_7 : decode cX4_put 7 = .ok (.aload_n 0, 1) := by decide +kernel
theorem dX4_put_8 : decode cX4_put 8 = .ok (.getfield 21, 3) := by decide +kernel
theorem dX4_put_11 : decode cX4_put 11 = .ok (.aload_n 0, 1) := by decide +kernel
theorem dX4_put_12 : decode cX4_put 12 = .ok (.getfield 15, 3) := by decide +kernel
theorem dX4_put_15 : decode cX4_put 15 = .ok (.arraylength, 1) := by decide +kernel
theorem dX4_put_16 : decode cX4_put 16 = .ok (.if_icmp .ge 23, 3) := by decide +kernel
theorem dX4_put_19 : decode cX4_put 19 = .ok (.aload_n 0, 1) := by decide +kernel
theorem dX4_put_20 : decode cX4_put 20 = .ok (.getfield 15, 3) := by decide +kernel
theorem dX4_put_23 : decode cX4_put 23 = .ok (.aload_n 0, 1) := by decide +kernel
theorem dX4_put_24 : decode cX4_put 24 = .ok (.getfield 21, 3) := by decide +kernel
theorem dX4_put_27 : decode cX4_put 27 = .ok (.iload_n 1, 1) := by decide +kernel
theorem dX4_put_28 : decode cX4_put 28 = .ok (.iastore, 1) := by decide +kernel
theorem dX4_put_29 : decode cX4_put 29 = .ok (.aload_n 0, 1) := by decide +kernel
theorem dX4_put_30 : decode cX4_put 30 = .ok (.dup, 1) := by decide +kernel
theorem dX4_put_31 : decode cX4_put 31 = .ok (.getfield 21, 3) := by decide +kernel
theorem dX4_put_34 : decode cX4_put 34 = .ok (.iconst 1, 1) := by decide +kernel
theorem dX4_put_35 : decode cX4_put 35 = .ok (.iadd, 1) := by decide +kernel
theorem dX4_put_36 : decode cX4_put 36 = .ok (.putfield 21, 3) := by decide +kernel
theorem dX4_put_39 : decode cX4_put 39 = .ok (.return_, 1) := by decide +kernel
theorem dX4_byteAt_0 : decode cX4_byteAt 0 = .ok (.iload_n 1, 1) := by decide +kernel
theorem dX4_byteAt_1 : decode cX4_byteAt 1 = .ok (.ifCond .lt 29, 3) := by decide +kernel
theorem dX4_byteAt_4 : decode cX4_byteAt 4 = .ok (.iload_n 1, 1) := by decide +kernel
theorem dX4_byteAt_5 : decode cX4_byteAt 5 = .ok (.aload_n 0, 1) := by decide +kernel
theorem dX4_byteAt_6 : decode cX4_byteAt 6 = .ok (.getfield 21, 3) := by decide +kernel
theorem dX4_byteAt_9 : decode cX4_byteAt 9 = .ok (.if_icmp .ge 21, 3) := by decide +kernel
theorem dX4_byteAt_12 : decode cX4_byteAt 12 = .ok (.iload_n 1, 1) := by decide +kernel
theorem dX4_byteAt_13 : decode cX4_byteAt 13 = .ok (.aload_n 0, 1) := by decide +kernel
theorem dX4_byteAt_14 : decode cX4_byteAt 14 = .ok (.getfield 15, 3) := by decide +kernel
theorem dX4_byteAt_17 : decode cX4_byteAt 17 = .ok (.arraylength, 1) := by decide +kernel
theorem dX4_byteAt_18 : decode cX4_byteAt 18 = .ok (.if_icmp .ge 12, 3) := by decide +kernel
theorem dX4_byteAt_21 : decode cX4_byteAt 21 = .ok (.aload_n 0, 1) := by decide +kernel
theorem dX4_byteAt_22 : decode cX4_byteAt 22 = .ok (.getfield 15, 3) := by decide +kernel
theorem dX4_byteAt_25 : decode cX4_byteAt 25 = .ok (.iload_n 1, 1) := by decide +kernel
theorem dX4_byteAt_26 : decode cX4_byteAt 26 = .ok (.iaload, 1) := by decide +kernel
theorem dX4_byteAt_27 : decode cX4_byteAt 27 = .ok (.goto 4, 3) := by decide +kernel
theorem dX4_byteAt_30 : decode cX4_byteAt 30 = .ok (.iconst (-1), 1) := by decide +kernel
theorem dX4_byteAt_31 : decode cX4_byteAt 31 = .ok (.ireturn, 1) := by decide +kernel
theorem dX4_clear_0 : decode cX4_clear 0 = .ok (.aload_n 0, 1) := by decide +kernel
theorem dX4_clear_1 : decode cX4_clear 1 = .ok (.iconst 0, 1) := by decide +kernel
theorem dX4_clear_2 : decode cX4_clear 2 = .ok (.putfield 21, 3) := by decide +kernel
theorem dX4_clear_5 : decode cX4_clear 5 = .ok (.return_, 1) := by decide +kernel
set_option maxRecDepth 20000 in
theorem ggX4_copyFrom_X4_clear : GoodIn wsX4_copyFrom wsX4_clear := goodIn_r _ [6, 1, 16, 17] (by decide +kernel) (by decide +kernel)
set_option maxRecDepth 20000 in
theorem gX4_copyFrom_X4_clear : GoodIn wsX4_copyFrom (wsV RX4 25 RX4 yX4_clear wsX4_clear) := goodIn_app (goodIn_of _ (by decide +kernel)) ggX4_copyFrom_X4_clear
set_option maxRecDepth 20000 in
theorem ggX4_copyFrom_X4_byteAt : GoodIn wsX4_copyFrom wsX4_byteAt := goodIn_r _ [10, 1, 11, 16, 17] (by decide +kernel) (by decide +kernel)
set_option maxRecDepth 20000 in
theorem gX4_copyFrom_X4_byteAt : GoodIn wsX4_copyFrom (wsV RX4 28 RX4 yX4_byteAt wsX4_byteAt) := goodIn_app (goodIn_of _ (by decide +kernel)) ggX4_copyFrom_X4_byteAt
set_option maxRecDepth 20000 in
theorem ggX4_copyFrom_X4_put : GoodIn wsX4_copyFrom wsX4_put := goodIn_r _ [15, 1, 11, 16, 17] (by decide +kernel) (by decide +kernel)
set_option maxRecDepth 20000 in
theorem gX4_copyFrom_X4_put : GoodIn wsX4_copyFrom (wsV RX4 32 RX4 yX4_put wsX4_put) := goodIn_app (goodIn_of _ (by decide +kernel)) ggX4_copyFrom_X4_put
theorem dX4_copyFrom_0 : decode cX4_copyFrom 0 = .ok (.aload_n 0, 1) := by decide +kernel
theorem dX4_copyFrom_1 : decode cX4_copyFrom 1 = .ok (.invokevirtual 25, 3) := by decide +kernel
theorem dX4_copyFrom_4 : decode cX4_copyFrom 4 = .ok (.iconst 0, 1) := by decide +kernel
theorem dX4_copyFrom_5 : decode cX4_copyFrom 5 = .ok (.istore_n 2, 1) := by decide +kernel
theorem dX4_copyFrom_6 : decode cX4_copyFrom 6 = .ok (.iload_n 2, 1) := by decide +kernel
theorem dX4_copyFrom_7 : decode cX4_copyFrom 7 = .ok (.aload_n 1, 1) := by decide +kernel
theorem dX4_copyFrom_8 : decode cX4_copyFrom 8 = .ok (.getfield 21, 3) := by decide +kernel
theorem dX4_copyFrom_11 : decode cX4_copyFrom 11 = .ok (.if_icmp .ge 18, 3) := by decide +kernel
theorem dX4_copyFrom_14 : decode cX4_copyFrom 14 = .ok (.aload_n 0, 1) := by decide +kernel
theorem dX4_copyFrom_15 : decode cX4_copyFrom 15 = .ok (.aload_n 1, 1) := by decide +kernel
theorem dX4_copyFrom_16 : decode cX4_copyFrom 16 = .ok (.iload_n 2, 1) := by decide +kernel
theorem dX4_copyFrom_17 : decode cX4_copyFrom 17 = .ok (.invokevirtual 28, 3) := by decide +kernel
theorem dX4_copyFrom_20 : decode cX4_copyFrom 20 = .ok (.invokevirtual 32, 3) := by decide +kernel
theorem dX4_copyFrom_23 : decode cX4_copyFrom 23 = .ok (.iinc 2 1, 3) := by decide +kernel
theorem dX4_copyFrom_26 : decode cX4_copyFrom 26 = .ok (.goto (-20), 3) := by decide +kernel
theorem dX4_copyFrom_29 : decode cX4_copyFrom 29 = .ok (.return_, 1) := by decide +kernel
theorem dX5_init_0 : decode cX5_init 0 = .ok (.aload_n 0, 1) := by decide +kernel
theorem dX5_init_1 : decode cX5_init 1 = .ok (.invokespecial 1, 3) := by decide +kernel
theorem dX5_init_4 : decode cX5_init 4 = .ok (.return_, 1) := by decide +kernel
theorem dX5_clear_0 : decode cX5_clear 0 = .ok (.aload_n 0, 1) := by decide +kernel
theorem dX5_clear_1 : decode cX5_clear 1 = .ok (.iconst 0, 1) := by decide +kernel
theorem dX5_clear_2 : decode cX5_clear 2 = .ok (.putfield 7, 3) := by decide +kernel
theorem dX5_clear_5 : decode cX5_clear 5 = .ok (.aload_n 0, 1) := by decide +kernel
theorem dX5_clear_6 : decode cX5_clear 6 = .ok (.iconst 0, 1) := by decide +kernel
theorem dX5_clear_7 : decode cX5_clear 7 = .ok (.putfield 13, 3) := by decide +kernel
theorem dX5_clear_10 : decode cX5_clear 10 = .ok (.aload_n 0, 1) := by decide +kernel
theorem dX5_clear_11 : decode cX5_clear 11 = .ok (.iconst 0, 1) := by decide +kernel
theorem dX5_clear_12 : decode cX5_clear 12 = .ok (.putfield 16, 3) := by decide +kernel
theorem dX5_clear_15 : decode cX5_clear 15 = .ok (.return_, 1) := by decide +kernel
theorem dX5_begin_0 : decode cX5_begin 0 = .ok (.aload_n 0, 1) := by decide +kernel
theorem dX5_begin_1 : decode cX5_begin 1 = .ok (.iconst 0, 1) := by decide +kernel
theorem dX5_begin_2 : decode cX5_begin 2 = .ok (.putfield 7, 3) := by decide +kernel
theorem dX5_begin_5 : decode cX5_begin 5 = .ok (.aload_n 0, 1) := by decide +kernel
theorem dX5_begin_6 : decode cX5_begin 6 = .ok (.iload_n 1, 1) := by decide +kernel
theorem dX5_begin_7 : decode cX5_begin 7 = .ok (.putfield 13, 3) := by decide +kernel
theorem dX5_begin_10 : decode cX5_begin 10 = .ok (.aload_n 0, 1) := by decide +kernel
theorem dX5_begin_11 : decode cX5_begin 11 = .ok (.iconst 1, 1) := by decide +kernel
theorem dX5_begin_12 : decode cX5_begin 12 = .ok (.putfield 16, 3) := by decide +kernel
theorem dX5_begin_15 : decode cX5_begin 15 = .ok (.return_, 1) := by decide +kernel
set_option maxRecDepth 20000 in
theorem ggX5_accept_X5_begin : GoodIn wsX5_accept wsX5_begin := goodIn_r _ [8, 3, 2, 1, 17, 18, 19] (by decide +kernel) (by decide +kernel)
set_option maxRecDepth 20000 in
theorem gX5_accept_X5_begin : GoodIn wsX5_accept (wsV RX5 19 RX5 yX5_begin wsX5_begin) := goodIn_app (goodIn_of _ (by decide +kernel)) ggX5_accept_X5_begin
set_option maxRecDepth 20000 in
theorem ggX5_accept_X5_fitsBelowHundred : GoodIn wsX5_accept wsX5_fitsBelowHundred := goodIn_r _ [12, 2, 3, 17, 18, 19] (by decide +kernel) (by decide +kernel)
set_option maxRecDepth 20000 in
theorem gX5_accept_X5_fitsBelowHundred : GoodIn wsX5_accept (wsV RX5 23 RX5 yX5_fitsBelowHundred wsX5_fitsBelowHundred) := goodIn_app (goodIn_of _ (by decide +kernel)) ggX5_accept_X5_fitsBelowHundred
set_option maxRecDepth 20000 in
theorem ggX5_accept_X5_fitsBelowTen : GoodIn wsX5_accept wsX5_fitsBelowTen := goodIn_r _ [16, 2, 17, 18, 19] (by decide +kernel) (by decide +kernel)
set_option maxRecDepth 20000 in
theorem gX5_accept_X5_fitsBelowTen : GoodIn wsX5_accept (wsV RX5 27 RX5 yX5_fitsBelowTen wsX5_fitsBelowTen) := goodIn_app (goodIn_of _ (by decide +kernel)) ggX5_accept_X5_fitsBelowTen
theorem dX5_accept_0 : decode cX5_accept 0 = .ok (.aload_n 0, 1) := by decide +kernel
theorem dX5_accept_1 : decode cX5_accept 1 = .ok (.getfield 16, 3) := by decide +kernel
theorem dX5_accept_4 : decode cX5_accept 4 = .ok (.ifCond .ne 10, 3) := by decide +kernel
theorem dX5_accept_7 : decode cX5_accept 7 = .ok (.aload_n 0, 1) := by decide +kernel
theorem dX5_accept_8 : decode cX5_accept 8 = .ok (.iload_n 1, 1) := by decide +kernel
theorem dX5_accept_9 : decode cX5_accept 9 = .ok (.invokevirtual 19, 3) := by decide +kernel
theorem dX5_accept_12 : decode cX5_accept 12 = .ok (.iconst 1, 1) := by decide +kernel
theorem dX5_accept_13 : decode cX5_accept 13 = .ok (.ireturn, 1) := by decide +kernel
theorem dX5_accept_14 : decode cX5_accept 14 = .ok (.iload_n 1, 1) := by decide +kernel
theorem dX5_accept_15 : decode cX5_accept 15 = .ok (.bipush 100, 2) := by decide +kernel
theorem dX5_accept_17 : decode cX5_accept 17 = .ok (.if_icmp .ne 34, 3) := by decide +kernel
theorem dX5_accept_20 : decode cX5_accept 20 = .ok (.aload_n 0, 1) := by decide +kernel
theorem dX5_accept_21 : decode cX5_accept 21 = .ok (.getfield 13, 3) := by decide +kernel
theorem dX5_accept_24 : decode cX5_accept 24 = .ok (.iconst 1, 1) := by decide +kernel
theorem dX5_accept_25 : decode cX5_accept 25 = .ok (.if_icmp .lt 26, 3) := by decide +kernel
theorem dX5_accept_28 : decode cX5_accept 28 = .ok (.aload_n 0, 1) := by decide +kernel
theorem dX5_accept_29 : decode cX5_accept 29 = .ok (.getfield 13, 3) := by decide +kernel
theorem dX5_accept_32 : decode cX5_accept 32 = .ok (.bipush 9, 2) := by decide +kernel
theorem dX5_accept_34 : decode cX5_accept 34 = .ok (.if_icmp .gt 17, 3) := by decide +kernel
theorem dX5_accept_37 : decode cX5_accept 37 = .ok (.aload_n 0, 1) := by decide +kernel
theorem dX5_accept_38 : decode cX5_accept 38 = .ok (.bipush 100, 2) := by decide +kernel
theorem dX5_accept_40 : decode cX5_accept 40 = .ok (.aload_n 0, 1) := by decide +kernel
theorem dX5_accept_41 : decode cX5_accept 41 = .ok (.getfield 13, 3) := by decide +kernel
theorem dX5_accept_44 : decode cX5_accept 44 = .ok (.imul, 1) := by decide +kernel
theorem dX5_accept_45 : decode cX5_accept 45 = .ok (.putfield 13, 3) := by decide +kernel
theorem dX5_accept_48 : decode cX5_accept 48 = .ok (.goto 86, 3) := by decide +kernel
theorem dX5_accept_51 : decode cX5_accept 51 = .ok (.iload_n 1, 1) := by decide +kernel
theorem dX5_accept_52 : decode cX5_accept 52 = .ok (.sipush 1000, 3) := by decide +kernel
theorem dX5_accept_55 : decode cX5_accept 55 = .ok (.if_icmp .ne 48, 3) := by decide +kernel
theorem dX5_accept_58 : decode cX5_accept 58 = .ok (.aload_n 0, 1) := by decide +kernel
theorem dX5_accept_59 : decode cX5_accept 59 = .ok (.getfield 13, 3) := by decide +kernel
theorem dX5_accept_62 : decode cX5_accept 62 = .ok (.iconst 1, 1) := by decide +kernel
theorem dX5_accept_63 : decode cX5_accept 63 = .ok (.if_icmp .lt 40, 3) := by decide +kernel
theorem dX5_accept_66 : decode cX5_accept 66 = .ok (.aload_n 0, 1) := by decide +kernel
theorem dX5_accept_67 : decode cX5_accept 67 = .ok (.getfield 13, 3) := by decide +kernel
theorem dX5_accept_70 : decode cX5_accept 70 = .ok (.sipush 999, 3) := by decide +kernel
theorem dX5_accept_73 : decode cX5_accept 73 = .ok (.if_icmp .gt 30, 3) := by decide +kernel
theorem dX5_accept_76 : decode cX5_accept 76 = .ok (.aload_n 0, 1) := by decide +kernel
theorem dX5_accept_77 : decode cX5_accept 77 = .ok (.getfield 7, 3) := by decide +kernel
theorem dX5_accept_80 : decode cX5_accept 80 = .ok (.ifCond .ne 23, 3) := by decide +kernel
theorem dX5_accept_83 : decode cX5_accept 83 = .ok (.aload_n 0, 1) := by decide +kernel
theorem dX5_accept_84 : decode cX5_accept 84 = .ok (.sipush 1000, 3) := by decide +kernel
theorem dX5_accept_87 : decode cX5_accept 87 = .ok (.aload_n 0, 1) := by decide +kernel
theorem dX5_accept_88 : decode cX5_accept 88 = .ok (.getfield 13, 3) := by decide +kernel
theorem dX5_accept_91 : decode cX5_accept 91 = .ok (.imul, 1) := by decide +kernel
theorem dX5_accept_92 : decode cX5_accept 92 = .ok (.putfield 7, 3) := by decide +kernel
theorem dX5_accept_95 : decode cX5_accept 95 = .ok (.aload_n 0, 1) := by decide +kernel
theorem dX5_accept_96 : decode cX5_accept 96 = .ok (.iconst 0, 1) := by decide +kernel
theorem dX5_accept_97 : decode cX5_accept 97 = .ok (.putfield 13, 3) := by decide +kernel
theorem dX5_accept_100 : decode cX5_accept 100 = .ok (.goto 34, 3) := by decide +kernel
theorem dX5_accept_103 : decode cX5_accept 103 = .ok (.aload_n 0, 1) := by decide +kernel
theorem dX5_accept_104 : decode cX5_accept 104 = .ok (.iload_n 1, 1) := by decide +kernel
theorem dX5_accept_105 : decode cX5_accept 105 = .ok (.invokevirtual 23, 3) := by decide +kernel
theorem dX5_accept_108 : decode cX5_accept 108 = .ok (.ifCond .ne 11, 3) := by decide +kernel
theorem dX5_accept_111 : decode cX5_accept 111 = .ok (.aload_n 0, 1) := by decide +kernel
theorem dX5_accept_112 : decode cX5_accept 112 = .ok (.iload_n 1, 1) := by decide +kernel
theorem dX5_accept_113 : decode cX5_accept 113 = .ok (.invokevirtual 27, 3) := by decide +kernel
theorem dX5_accept_116 : decode cX5_accept 116 = .ok (.ifCond .eq 16, 3) := by decide +kernel
theorem dX5_accept_119 : decode cX5_accept 119 = .ok (.aload_n 0, 1) := by decide +kernel
theorem dX5_accept_120 : decode cX5_accept 120 = .ok (.dup, 1) := by decide +kernel
theorem dX5_accept_121 : decode cX5_accept 121 = .ok (.getfield 13, 3) := by decide +kernel
theorem dX5_accept_124 : decode cX5_accept 124 = .ok (.iload_n 1, 1) := by decide +kernel
theorem dX5_accept_125 : decode cX5_accept 125 = .ok (.iadd, 1) := by decide +kernel
theorem dX5_accept_126 : decode cX5_accept 126 = .ok (.putfield 13, 3) := by decide +kernel
theorem dX5_accept_129 : decode cX5_accept 129 = .ok (.goto 5, 3) := by decide +kernel
theorem dX5_accept_132 : decode cX5_accept 132 = .ok (.iconst 0, 1) := by decide +kernel
theorem dX5_accept_133 : decode cX5_accept 133 = .ok (.ireturn, 1) := by decide +kernel
theorem dX5_accept_134 : decode cX5_accept 134 = .ok (.aload_n 0, 1) := by decide +kernel
theorem dX5_accept_135 : decode cX5_accept 135 = .ok (.dup, 1) := by decide +kernel
theorem dX5_accept_136 : decode cX5_accept 136 = .ok (.getfield 16, 3) := by decide +kernel
theorem dX5_accept_139 : decode cX5_accept 139 = .ok (.iconst 1, 1) := by decide +kernel
theorem dX5_accept_140 : decode cX5_accept 140 = .ok (.iadd, 1) := by decide +kernel
theorem dX5_accept_141 : decode cX5_accept 141 = .ok (.putfield 16, 3) := by decide +kernel
theorem dX5_accept_144 : decode cX5_accept 144 = .ok (.iconst 1, 1) := by decide +kernel
theorem dX5_accept_145 : decode cX5_accept 145 = .ok (.ireturn, 1) := by decide +kernel
theorem dX5_fitsBelowHundred_0 : decode cX5_fitsBelowHundred 0 = .ok (.aload_n 0, 1) := by decide +kernel
theorem dX5_fitsBelowHundred_1 : decode cX5_fitsBelowHundred 1 = .ok (.getfield 13, 3) := by decide +kernel
theorem dX5_fitsBelowHundred_4 : decode cX5_fitsBelowHundred 4 = .ok (.ifCond .le 21, 3) := by decide +kernel
theorem dX5_fitsBelowHundred_7 : decode cX5_fitsBelowHundred 7 = .ok (.aload_n 0, 1) := by decide +kernel
theorem dX5_fitsBelowHundred_8 : decode cX5_fitsBelowHundred 8 = .ok (.getfield 13, 3) := by decide +kernel
theorem dX5_fitsBelowHundred_11 : decode cX5_fitsBelowHundred 11 = .ok (.bipush 100, 2) := by decide +kernel
theorem dX5_fitsBelowHundred_13 : decode cX5_fitsBelowHundred 13 = .ok (.irem, 1) := by decide +kernel
theorem dX5_fitsBelowHundred_14 : decode cX5_fitsBelowHundred 14 = .ok (.ifCond .ne 7, 3) := by decide +kernel
theorem dX5_fitsBelowHundred_17 : decode cX5_fitsBelowHundred 17 = .ok (.iconst 1, 1) := by decide +kernel
theorem dX5_fitsBelowHundred_18 : decode cX5_fitsBelowHundred 18 = .ok (.goto 26, 3) := by decide +kernel
theorem dX5_fitsBelowHundred_21 : decode cX5_fitsBelowHundred 21 = .ok (.iconst 0, 1) := by decide +kernel
theorem dX5_fitsBelowHundred_22 : decode cX5_fitsBelowHundred 22 = .ok (.goto 22, 3) := by decide +kernel
theorem dX5_fitsBelowHundred_25 : decode cX5_fitsBelowHundred 25 = .ok (.aload_n 0, 1) := by decide +kernel
theorem dX5_fitsBelowHundred_26 : decode cX5_fitsBelowHundred 26 = .ok (.getfield 13, 3) := by decide +kernel
theorem dX5_fitsBelowHundred_29 : decode cX5_fitsBelowHundred 29 = .ok (.ifCond .ne 14, 3) := by decide +kernel
theorem dX5_fitsBelowHundred_32 : decode cX5_fitsBelowHundred 32 = .ok (.aload_n 0, 1) := by decide +kernel
theorem dX5_fitsBelowHundred_33 : decode cX5_fitsBelowHundred 33 = .ok (.getfield 7, 3) := by decide +kernel
theorem dX5_fitsBelowHundred_36 : decode cX5_fitsBelowHundred 36 = .ok (.ifCond .eq 7, 3) := by decide +kernel
theorem dX5_fitsBelowHundred_39 : decode cX5_fitsBelowHundred 39 = .ok (.iconst 1, 1) := by decide +kernel
theorem dX5_fitsBelowHundred_40 : decode cX5_fitsBelowHundred 40 = .ok (.goto 4, 3) := by decide +kernel
theorem dX5_fitsBelowHundred_43 : decode cX5_fitsBelowHundred 43 = .ok (.iconst 0, 1) := by decide +kernel
theorem dX5_fitsBelowHundred_44 : decode cX5_fitsBelowHundred 44 = .ok (.istore_n 2, 1) := by decide +kernel
theorem dX5_fitsBelowHundred_45 : decode cX5_fitsBelowHundred 45 = .ok (.iload_n 1, 1) := by decide +kernel
theorem dX5_fitsBelowHundred_46 : decode cX5_fitsBelowHundred 46 = .ok (.iconst 1, 1) := by decide +kernel
theorem dX5_fitsBelowHundred_47 : decode cX5_fitsBelowHundred 47 = .ok (.if_icmp .lt 17, 3) := by decide +kernel
theorem dX5_fitsBelowHundred_50 : decode cX5_fitsBelowHundred 50 = .ok (.iload_n 1, 1) := by decide +kernel
theorem dX5_fitsBelowHundred_51 : decode cX5_fitsBelowHundred 51 = .ok (.bipush 99, 2) := by decide +kernel
theorem dX5_fitsBelowHundred_53 : decode cX5_fitsBelowHundred 53 = .ok (.if_icmp .gt 11, 3) := by decide +kernel
theorem dX5_fitsBelowHundred_56 : decode cX5_fitsBelowHundred 56 = .ok (.iload_n 2, 1) := by decide +kernel
theorem dX5_fitsBelowHundred_57 : decode cX5_fitsBelowHundred 57 = .ok (.ifCond .eq 7, 3) := by decide +kernel
theorem dX5_fitsBelowHundred_60 : decode cX5_fitsBelowHundred 60 = .ok (.iconst 1, 1) := by decide +kernel
theorem dX5_fitsBelowHundred_61 : decode cX5_fitsBelowHundred 61 = .ok (.goto 4, 3) := by decide +kernel
theorem dX5_fitsBelowHundred_64 : decode cX5_fitsBelowHundred 64 = .ok (.iconst 0, 1) := by decide +kernel
theorem dX5_fitsBelowHundred_65 : decode cX5_fitsBelowHundred 65 = .ok (.ireturn, 1) := by decide +kernel
theorem dX5_fitsBelowTen_0 : decode cX5_fitsBelowTen 0 = .ok (.aload_n 0, 1) := by decide +kernel
theorem dX5_fitsBelowTen_1 : decode cX5_fitsBelowTen 1 = .ok (.getfield 13, 3) := by decide +kernel
theorem dX5_fitsBelowTen_4 : decode cX5_fitsBelowTen 4 = .ok (.bipush 100, 2) := by decide +kernel
theorem dX5_fitsBelowTen_6 : decode cX5_fitsBelowTen 6 = .ok (.irem, 1) := by decide +kernel
theorem dX5_fitsBelowTen_7 : decode cX5_fitsBelowTen 7 = .ok (.istore_n 2, 1) := by decide +kernel
theorem dX5_fitsBelowTen_8 : decode cX5_fitsBelowTen 8 = .ok (.iload_n 1, 1) := by decide +kernel
theorem dX5_fitsBelowTen_9 : decode cX5_fitsBelowTen 9 = .ok (.iconst 1, 1) := by decide +kernel
theorem dX5_fitsBelowTen_10 : decode cX5_fitsBelowTen 10 = .ok (.if_icmp .lt 26, 3) := by decide +kernel
theorem dX5_fitsBelowTen_13 : decode cX5_fitsBelowTen 13 = .ok (.iload_n 1, 1) := by decide +kernel
theorem dX5_fitsBelowTen_14 : decode cX5_fitsBelowTen 14 = .ok (.bipush 9, 2) := by decide +kernel
theorem dX5_fitsBelowTen_16 : decode cX5_fitsBelowTen 16 = .ok (.if_icmp .gt 20, 3) := by decide +kernel
theorem dX5_fitsBelowTen_19 : decode cX5_fitsBelowTen 19 = .ok (.iload_n 2, 1) := by decide +kernel
theorem dX5_fitsBelowTen_20 : decode cX5_fitsBelowTen 20 = .ok (.bipush 20, 2) := by decide +kernel
theorem dX5_fitsBelowTen_22 : decode cX5_fitsBelowTen 22 = .ok (.if_icmp .lt 14, 3) := by decide +kernel
theorem dX5_fitsBelowTen_25 : decode cX5_fitsBelowTen 25 = .ok (.iload_n 2, 1) := by decide +kernel
theorem dX5_fitsBelowTen_26 : decode cX5_fitsBelowTen 26 = .ok (.bipush 10, 2) := by decide +kernel
theorem dX5_fitsBelowTen_28 : decode cX5_fitsBelowTen 28 = .ok (.irem, 1) := by decide +kernel
theorem dX5_fitsBelowTen_29 : decode cX5_fitsBelowTen 29 = .ok (.ifCond .ne 7, 3) := by decide +kernel
theorem dX5_fitsBelowTen_32 : decode cX5_fitsBelowTen 32 = .ok (.iconst 1, 1) := by decide +kernel
theorem dX5_fitsBelowTen_33 : decode cX5_fitsBelowTen 33 = .ok (.goto 4, 3) := by decide +kernel
theorem dX5_fitsBelowTen_36 : decode cX5_fitsBelowTen 36 = .ok (.iconst 0, 1) := by decide +kernel
theorem dX5_fitsBelowTen_37 : decode cX5_fitsBelowTen 37 = .ok (.ireturn, 1) := by decide +kernel
theorem dX6_init_0 : decode cX6_init 0 = .ok (.aload_n 0, 1) := by decide +kernel
theorem dX6_init_1 : decode cX6_init 1 = .ok (.invokespecial 3, 3) := by decide +kernel
theorem dX6_init_4 : decode cX6_init 4 = .ok (.aload_n 0, 1) := by decide +kernel
theorem dX6_init_5 : decode cX6_init 5 = .ok (.bipush 60, 2) := by decide +kernel
theorem dX6_init_7 : decode cX6_init 7 = .ok (.newarray .int, 2) := by decide +kernel
theorem dX6_init_9 : decode cX6_init 9 = .ok (.putfield 9, 3) := by decide +kernel
theorem dX6_init_12 : decode cX6_init 12 = .ok (.aload_n 0, 1) := by decide +kernel
theorem dX6_init_13 : decode cX6_init 13 = .ok (.bipush 60, 2) := by decide +kernel
theorem dX6_init_15 : decode cX6_init 15 = .ok (.newarray .int, 2) := by decide +kernel
theorem dX6_init_17 : decode cX6_init 17 = .ok (.putfield 15, 3) := by decide +kernel
theorem dX6_init_20 : decode cX6_init 20 = .ok (.aload_n 0, 1) := by decide +kernel
theorem dX6_init_21 : decode cX6_init 21 = .ok (.bipush 60, 2) := by decide +kernel
theorem dX6_init_23 : decode cX6_init 23 = .ok (.newarray .int, 2) := by decide +kernel
theorem dX6_init_25 : decode cX6_init 25 = .ok (.putfield 18, 3) := by decide +kernel
theorem dX6_init_28 : decode cX6_init 28 = .ok (.return_, 1) := by decide +kernel
theorem dX6_has_0 : decode cX6_has 0 = .ok (.iload_n 1, 1) := by decide +kernel
theorem dX6_has_1 : decode cX6_has 1 = .ok (.ifCond .lt 15, 3) := by decide +kernel
theorem dX6_has_4 : decode cX6_has 4 = .ok (.iload_n 1, 1) := by decide +kernel
theorem dX6_has_5 : decode cX6_has 5 = .ok (.aload_n 0, 1) := by decide +kernel
theorem dX6_has_6 : decode cX6_has 6 = .ok (.getfield 21, 3) := by decide +kernel
theorem dX6_has_9 : decode cX6_has 9 = .ok (.if_icmp .ge 7, 3) := by decide +kernel
theorem dX6_has_12 : decode cX6_has 12 = .ok (.iconst 1, 1) := by decide +kernel
theorem dX6_has_13 : decode cX6_has 13 = .ok (.goto 4, 3) := by decide +kernel
theorem dX6_has_16 : decode cX6_has 16 = .ok (.iconst 0, 1) := by decide +kernel
theorem dX6_has_17 : decode cX6_has 17 = .ok (.ireturn, 1) := by decide +kernel
theorem dX6_areAll_0 : decode cX6_areAll 0 = .ok (.iload_n 1, 1) := by decide +kernel
theorem dX6_areAll_1 : decode cX6_areAll 1 = .ok (.aload_n 0, 1) := by decide +kernel
theorem dX6_areAll_2 : decode cX6_areAll 2 = .ok (.getfield 21, 3) := by decide +kernel
theorem dX6_areAll_5 : decode cX6_areAll 5 = .ok (.iushr, 1) := by decide +kernel
theorem dX6_areAll_6 : decode cX6_areAll 6 = .ok (.ifCond .ne 7, 3) := by decide +kernel
theorem dX6_areAll_9 : decode cX6_areAll 9 = .ok (.iconst 1, 1) := by decide +kernel
theorem dX6_areAll_10 : decode cX6_areAll 10 = .ok (.goto 4, 3) := by decide +kernel
theorem dX6_areAll_13 : decode cX6_areAll 13 = .ok (.iconst 0, 1) := by decide +kernel
theorem dX6_areAll_14 : decode cX6_areAll 14 = .ok (.ireturn, 1) := by decide +kernel
theorem dX6_addThing_0 : decode cX6_addThing 0 = .ok (.aload_n 0, 1) := by decide +kernel
theorem dX6_addThing_1 : decode cX6_addThing 1 = .ok (.getfield 21, 3) := by decide +kernel
theorem dX6_addThing_4 : decode cX6_addThing 4 = .ok (.bipush 12, 2) := by decide +kernel
theorem dX6_addThing_6 : decode cX6_addThing 6 = .ok (.if_icmp .lt 5, 3) := by decide +kernel
theorem dX6_addThing_9 : decode cX6_addThing 9 = .ok (.iconst 0, 1) := by decide +kernel
theorem dX6_addThing_10 : decode cX6_addThing 10 = .ok (.ireturn, 1) := by decide +kernel
theorem dX6_addThing_11 : decode cX6_addThing 11 = .ok (.aload_n 0, 1) := by decide +kernel
theorem dX6_addThing_12 : decode cX6_addThing 12 = .ok (.dup, 1) := by decide +kernel
theorem dX6_addThing_13 : decode cX6_addThing 13 = .ok (.getfield 21, 3) := by decide +kernel
theorem dX6_addThing_16 : decode cX6_addThing 16 = .ok (.iconst 1, 1) := by decide +kernel
theorem dX6_addThing_17 : decode cX6_addThing 17 = .ok (.iadd, 1) := by decide +kernel
theorem dX6_addThing_18 : decode cX6_addThing 18 = .ok (.putfield 21, 3) := by decide +kernel
theorem dX6_addThing_21 : decode cX6_addThing 21 = .ok (.iconst 1, 1) := by decide +kernel
theorem dX6_addThing_22 : decode cX6_addThing 22 = .ok (.ireturn, 1) := by decide +kernel
theorem dX6_addMeaning_0 : decode cX6_addMeaning 0 = .ok (.aload_n 0, 1) := by decide +kernel
theorem dX6_addMeaning_1 : decode cX6_addMeaning 1 = .ok (.getfield 25, 3) := by decide +kernel
theorem dX6_addMeaning_4 : decode cX6_addMeaning 4 = .ok (.ifCond .lt 12, 3) := by decide +kernel
theorem dX6_addMeaning_7 : decode cX6_addMeaning 7 = .ok (.aload_n 0, 1) := by decide +kernel
theorem dX6_addMeaning_8 : decode cX6_addMeaning 8 = .ok (.getfield 25, 3) := by decide +kernel
theorem dX6_addMeaning_11 : decode cX6_addMeaning 11 = .ok (.bipush 60, 2) := by decide +kernel
theorem dX6_addMeaning_13 : decode cX6_addMeaning 13 = .ok (.if_icmp .lt 5, 3) := by decide +kernel
theorem dX6_addMeaning_16 : decode cX6_addMeaning 16 = .ok (.iconst 0, 1) := by decide +kernel
theorem dX6_addMeaning_17 : decode cX6_addMeaning 17 = .ok (.ireturn, 1) := by decide +kernel
theorem dX6_addMeaning_18 : decode cX6_addMeaning 18 = .ok (.aload_n 0, 1) := by decide +kernel
theorem dX6_addMeaning_19 : decode cX6_addMeaning 19 = .ok (.getfield 9, 3) := by decide +kernel
theorem dX6_addMeaning_22 : decode cX6_addMeaning 22 = .ok (.aload_n 0, 1) := by decide +kernel
theorem dX6_addMeaning_23 : decode cX6_addMeaning 23 = .ok (.getfield 25, 3) := by decide +kernel
theorem dX6_addMeaning_26 : decode cX6_addMeaning 26 = .ok (.iload_n 1, 1) := by decide +kernel
theorem dX6_addMeaning_27 : decode cX6_addMeaning 27 = .ok (.iastore, 1) := by decide +kernel
theorem dX6_addMeaning_28 : decode cX6_addMeaning 28 = .ok (.aload_n 0, 1) := by decide +kernel
theorem dX6_addMeaning_29 : decode cX6_addMeaning 29 = .ok (.getfield 15, 3) := by decide +kernel
theorem dX6_addMeaning_32 : decode cX6_addMeaning 32 = .ok (.aload_n 0, 1) := by decide +kernel
theorem dX6_addMeaning_33 : decode cX6_addMeaning 33 = .ok (.getfield 25, 3) := by decide +kernel
theorem dX6_addMeaning_36 : decode cX6_addMeaning 36 = .ok (.iload_n 2, 1) := by decide +kernel
theorem dX6_addMeaning_37 : decode cX6_addMeaning 37 = .ok (.iastore, 1) := by decide +kernel
theorem dX6_addMeaning_38 : decode cX6_addMeaning 38 = .ok (.aload_n 0, 1) := by decide +kernel
theorem dX6_addMeaning_39 : decode cX6_addMeaning 39 = .ok (.getfield 18, 3) := by decide +kernel
theorem dX6_addMeaning_42 : decode cX6_addMeaning 42 = .ok (.aload_n 0, 1) := by decide +kernel
theorem dX6_addMeaning_43 : decode cX6_addMeaning 43 = .ok (.getfield 25, 3) := by decide +kernel
theorem dX6_addMeaning_46 : decode cX6_addMeaning 46 = .ok (.iload_n 3, 1) := by decide +kernel
theorem dX6_addMeaning_47 : decode cX6_addMeaning 47 = .ok (.iastore, 1) := by decide +kernel
theorem dX6_addMeaning_48 : decode cX6_addMeaning 48 = .ok (.aload_n 0, 1) := by decide +kernel
theorem dX6_addMeaning_49 : decode cX6_addMeaning 49 = .ok (.dup, 1) := by decide +kernel
theorem dX6_addMeaning_50 : decode cX6_addMeaning 50 = .ok (.getfield 25, 3) := by decide +kernel
theorem dX6_addMeaning_53 : decode cX6_addMeaning 53 = .ok (.iconst 1, 1) := by decide +kernel
theorem dX6_addMeaning_54 : decode cX6_addMeaning 54 = .ok (.iadd, 1) := by decide +kernel
theorem dX6_addMeaning_55 : decode cX6_addMeaning 55 = .ok (.putfield 25, 3) := by decide +kernel
theorem dX6_addMeaning_58 : decode cX6_addMeaning 58 = .ok (.iconst 1, 1) := by decide +kernel
theorem dX6_addMeaning_59 : decode cX6_addMeaning 59 = .ok (.ireturn, 1) := by decide +kernel
theorem dX6_isUp_0 : decode cX6_isUp 0 = .ok (.aload_n 0, 1) := by decide +kernel
theorem dX6_isUp_1 : decode cX6_isUp 1 = .ok (.getfield 28, 3) := by decide +kernel
theorem dX6_isUp_4 : decode cX6_isUp 4 = .ok (.iload_n 1, 1) := by decide +kernel
theorem dX6_isUp_5 : decode cX6_isUp 5 = .ok (.iushr, 1) := by decide +kernel
theorem dX6_isUp_6 : decode cX6_isUp 6 = .ok (.iconst 1, 1) := by decide +kernel
theorem dX6_isUp_7 : decode cX6_isUp 7 = .ok (.iand, 1) := by decide +kernel
theorem dX6_isUp_8 : decode cX6_isUp 8 = .ok (.iconst 1, 1) := by decide +kernel
theorem dX6_isUp_9 : decode cX6_isUp 9 = .ok (.if_icmp .ne 7, 3) := by decide +kernel
theorem dX6_isUp_12 : decode cX6_isUp 12 = .ok (.iconst 1, 1) := by decide +kernel
theorem dX6_isUp_13 : decode cX6_isUp 13 = .ok (.goto 4, 3) := by decide +kernel
theorem dX6_isUp_16 : decode cX6_isUp 16 = .ok (.iconst 0, 1) := by decide +kernel
theorem dX6_isUp_17 : decode cX6_isUp 17 = .ok (.ireturn, 1) := by decide +kernel
theorem dX6_setFlag_0 : decode cX6_setFlag 0 = .ok (.iconst 1, 1) := by decide +kernel
theorem dX6_setFlag_1 : decode cX6_setFlag 1 = .ok (.iload_n 1, 1) := by decide +kernel
theorem dX6_setFlag_2 : decode cX6_setFlag 2 = .ok (.ishl, 1) := by decide +kernel
theorem dX6_setFlag_3 : decode cX6_setFlag 3 = .ok (.istore_n 3, 1) := by decide +kernel
theorem dX6_setFlag_4 : decode cX6_setFlag 4 = .ok (.aload_n 0, 1) := by decide +kernel
theorem dX6_setFlag_5 : decode cX6_setFlag 5 = .ok (.iload_n 2, 1) := by decide +kernel
theorem dX6_setFlag_6 : decode cX6_setFlag 6 = .ok (.ifCond .eq 12, 3) := by decide +kernel
theorem dX6_setFlag_9 : decode cX6_setFlag 9 = .ok (.aload_n 0, 1) := by decide +kernel
theorem dX6_setFlag_10 : decode cX6_setFlag 10 = .ok (.getfield 28, 3) := by decide +kernel
theorem dX6_setFlag_13 : decode cX6_setFlag 13 = .ok (.iload_n 3, 1) := by decide +kernel
theorem dX6_setFlag_14 : decode cX6_setFlag 14 = .ok (.ior, 1) := by decide +kernel
theorem dX6_setFlag_15 : decode cX6_setFlag 15 = .ok (.goto 11, 3) := by decide +kernel
theorem dX6_setFlag_18 : decode cX6_setFlag 18 = .ok (.aload_n 0, 1) := by decide +kernel
theorem dX6_setFlag_19 : decode cX6_setFlag 19 = .ok (.getfield 28, 3) := by decide +kernel
theorem dX6_setFlag_22 : decode cX6_setFlag 22 = .ok (.iload_n 3, 1) := by decide +kernel
theorem dX6_setFlag_23 : decode cX6_setFlag 23 = .ok (.iconst (-1), 1) := by decide +kernel
theorem dX6_setFlag_24 : decode cX6_setFlag 24 = .ok (.ixor, 1) := by decide +kernel
theorem dX6_setFlag_25 : decode cX6_setFlag 25 = .ok (.iand, 1) := by decide +kernel
theorem dX6_setFlag_26 : decode cX6_setFlag 26 = .ok (.putfield 28, 3) := by decide +kernel
theorem dX6_setFlag_29 : decode cX6_setFlag 29 = .ok (.return_, 1) := by decide +kernel
set_option maxRecDepth 20000 in
theorem ggX6_meantBy_X6_isUp : GoodIn wsX6_meantBy wsX6_isUp := goodIn_r _ [9, 10, 11, 12, 13, 14, 15, 16] (by decide +kernel) (by decide +kernel)
set_option maxRecDepth 20000 in
theorem gX6_meantBy_X6_isUp : GoodIn wsX6_meantBy (wsV RX6 31 RX6 yX6_isUp wsX6_isUp) := goodIn_app (goodIn_of _ (by decide +kernel)) ggX6_meantBy_X6_isUp
theorem dX6_meantBy_0 : decode cX6_meantBy 0 = .ok (.iconst 0, 1) := by decide +kernel
theorem dX6_meantBy_1 : decode cX6_meantBy 1 = .ok (.istore_n 2, 1) := by decide +kernel
theorem dX6_meantBy_2 : decode cX6_meantBy 2 = .ok (.iconst 0, 1) := by decide +kernel
theorem dX6_meantBy_3 : decode cX6_meantBy 3 = .ok (.istore_n 3, 1) := by decide +kernel
theorem dX6_meantBy_4 : decode cX6_meantBy 4 = .ok (.iload_n 3, 1) := by decide +kernel
theorem dX6_meantBy_5 : decode cX6_meantBy 5 = .ok (.aload_n 0, 1) := by decide +kernel
theorem dX6_meantBy_6 : decode cX6_meantBy 6 = .ok (.getfield 25, 3) := by decide +kernel
theorem dX6_meantBy_9 : decode cX6_meantBy 9 = .ok (.if_icmp .ge 71, 3) := by decide +kernel
theorem dX6_meantBy_12 : decode cX6_meantBy 12 = .ok (.iload_n 3, 1) := by decide +kernel
theorem dX6_meantBy_13 : decode cX6_meantBy 13 = .ok (.bipush 60, 2) := by decide +kernel
theorem dX6_meantBy_15 : decode cX6_meantBy 15 = .ok (.if_icmp .ge 65, 3) := by decide +kernel
theorem dX6_meantBy_18 : decode cX6_meantBy 18 = .ok (.aload_n 0, 1) := by decide +kernel
theorem dX6_meantBy_19 : decode cX6_meantBy 19 = .ok (.getfield 18, 3) := by decide +kernel
theorem dX6_meantBy_22 : decode cX6_meantBy 22 = .ok (.iload_n 3, 1) := by decide +kernel
theorem dX6_meantBy_23 : decode cX6_meantBy 23 = .ok (.iaload, 1) := by decide +kernel
theorem dX6_meantBy_24 : decode cX6_meantBy 24 = .ok (.iconst (-1), 1) := by decide +kernel
theorem dX6_meantBy_25 : decode cX6_meantBy 25 = .ok (.if_icmp .eq 16, 3) := by decide +kernel
theorem dX6_meantBy_28 : decode cX6_meantBy 28 = .ok (.aload_n 0, 1) := by decide +kernel
theorem dX6_meantBy_29 : decode cX6_meantBy 29 = .ok (.aload_n 0, 1) := by decide +kernel
theorem dX6_meantBy_30 : decode cX6_meantBy 30 = .ok (.getfield 18, 3) := by decide +kernel
theorem dX6_meantBy_33 : decode cX6_meantBy 33 = .ok (.iload_n 3, 1) := by decide +kernel
theorem dX6_meantBy_34 : decode cX6_meantBy 34 = .ok (.iaload, 1) := by decide +kernel
theorem dX6_meantBy_35 : decode cX6_meantBy 35 = .ok (.invokevirtual 31, 3) := by decide +kernel
theorem dX6_meantBy_38 : decode cX6_meantBy 38 = .ok (.ifCond .eq 7, 3) := by decide +kernel
theorem dX6_meantBy_41 : decode cX6_meantBy 41 = .ok (.iconst 1, 1) := by decide +kernel
theorem dX6_meantBy_42 : decode cX6_meantBy 42 = .ok (.goto 4, 3) := by decide +kernel
theorem dX6_meantBy_45 : decode cX6_meantBy 45 = .ok (.iconst 0, 1) := by decide +kernel
theorem dX6_meantBy_46 : decode cX6_meantBy 46 = .ok (.istore 4, 2) := by decide +kernel
theorem dX6_meantBy_48 : decode cX6_meantBy 48 = .ok (.aload_n 0, 1) := by decide +kernel
theorem dX6_meantBy_49 : decode cX6_meantBy 49 = .ok (.getfield 15, 3) := by decide +kernel
theorem dX6_meantBy_52 : decode cX6_meantBy 52 = .ok (.iload_n 3, 1) := by decide +kernel
theorem dX6_meantBy_53 : decode cX6_meantBy 53 = .ok (.iaload, 1) := by decide +kernel
theorem dX6_meantBy_54 : decode cX6_meantBy 54 = .ok (.iload_n 1, 1) := by decide +kernel
theorem dX6_meantBy_55 : decode cX6_meantBy 55 = .ok (.if_icmp .ne 19, 3) := by decide +kernel
theorem dX6_meantBy_58 : decode cX6_meantBy 58 = .ok (.iload 4, 2) := by decide +kernel
theorem dX6_meantBy_60 : decode cX6_meantBy 60 = .ok (.ifCond .eq 14, 3) := by decide +kernel
theorem dX6_meantBy_63 : decode cX6_meantBy 63 = .ok (.iload_n 2, 1) := by decide +kernel
theorem dX6_meantBy_64 : decode cX6_meantBy 64 = .ok (.iconst 1, 1) := by decide +kernel
theorem dX6_meantBy_65 : decode cX6_meantBy 65 = .ok (.aload_n 0, 1) := by decide +kernel
theorem dX6_meantBy_66 : decode cX6_meantBy 66 = .ok (.getfield 9, 3) := by decide +kernel
theorem dX6_meantBy_69 : decode cX6_meantBy 69 = .ok (.iload_n 3, 1) := by decide +kernel
theorem dX6_meantBy_70 : decode cX6_meantBy 70 = .ok (.iaload, 1) := by decide +kernel
theorem dX6_meantBy_71 : decode cX6_meantBy 71 = .ok (.ishl, 1) := by decide +kernel
theorem dX6_meantBy_72 : decode cX6_meantBy 72 = .ok (.ior, 1) := by decide +kernel
theorem dX6_meantBy_73 : decode cX6_meantBy 73 = .ok (.istore_n 2, 1) := by decide +kernel
theorem dX6_meantBy_74 : decode cX6_meantBy 74 = .ok (.iinc 3 1, 3) := by decide +kernel
theorem dX6_meantBy_77 : decode cX6_meantBy 77 = .ok (.goto (-73), 3) := by decide +kernel
theorem dX6_meantBy_80 : decode cX6_meantBy 80 = .ok (.iload_n 2, 1) := by decide +kernel
theorem dX6_meantBy_81 : decode cX6_meantBy 81 = .ok (.ireturn, 1) := by decide +kernel
set_option maxRecDepth 20000 in
theorem ggX7_init_X4_init : GoodIn wsX7_init wsX4_init := goodIn_r _ [15, 16, 2, 3, 17, 18, 19, 20, 8, 21, 22, 23] (by decide +kernel) (by decide +kernel)
set_option maxRecDepth 20000 in
theorem gX7_init_X4_init : GoodIn wsX7_init (wsX4_init) := ggX7_init_X4_init
theorem dX7_init_0 : decode cX7_init 0 = .ok (.aload_n 0, 1) := by decide +kernel
theorem dX7_init_1 : decode cX7_init 1 = .ok (.invokespecial 3, 3) := by decide +kernel
theorem dX7_init_4 : decode cX7_init 4 = .ok (.aload_n 0, 1) := by decide +kernel
theorem dX7_init_5 : decode cX7_init 5 = .ok (.new 9, 3) := by decide +kernel
theorem dX7_init_8 : decode cX7_init 8 = .ok (.dup, 1) := by decide +kernel
theorem dX7_init_9 : decode cX7_init 9 = .ok (.bipush 80, 2) := by decide +kernel
theorem dX7_init_11 : decode cX7_init 11 = .ok (.invokespecial 11, 3) := by decide +kernel
theorem dX7_init_14 : decode cX7_init 14 = .ok (.putfield 14, 3) := by decide +kernel
theorem dX7_init_17 : decode cX7_init 17 = .ok (.aload_n 0, 1) := by decide +kernel
theorem dX7_init_18 : decode cX7_init 18 = .ok (.bipush 24, 2) := by decide +kernel
theorem dX7_init_20 : decode cX7_init 20 = .ok (.newarray .int, 2) := by decide +kernel
theorem dX7_init_22 : decode cX7_init 22 = .ok (.putfield 20, 3) := by decide +kernel
theorem dX7_init_25 : decode cX7_init 25 = .ok (.aload_n 0, 1) := by decide +kernel
theorem dX7_init_26 : decode cX7_init 26 = .ok (.bipush 24, 2) := by decide +kernel
theorem dX7_init_28 : decode cX7_init 28 = .ok (.newarray .int, 2) := by decide +kernel
theorem dX7_init_30 : decode cX7_init 30 = .ok (.putfield 24, 3) := by decide +kernel
theorem dX7_init_33 : decode cX7_init 33 = .ok (.aload_n 0, 1) := by decide +kernel
theorem dX7_init_34 : decode cX7_init 34 = .ok (.bipush 24, 2) := by decide +kernel
theorem dX7_init_36 : decode cX7_init 36 = .ok (.newarray .int, 2) := by decide +kernel
theorem dX7_init_38 : decode cX7_init 38 = .ok (.putfield 27, 3) := by decide +kernel
theorem dX7_init_41 : decode cX7_init 41 = .ok (.aload_n 0, 1) := by decide +kernel
theorem dX7_init_42 : decode cX7_init 42 = .ok (.bipush 24, 2) := by decide +kernel
theorem dX7_init_44 : decode cX7_init 44 = .ok (.newarray .int, 2) := by decide +kernel
theorem dX7_init_46 : decode cX7_init 46 = .ok (.putfield 30, 3) := by decide +kernel
theorem dX7_init_49 : decode cX7_init 49 = .ok (.return_, 1) := by decide +kernel
theorem dX7_has_0 : decode cX7_has 0 = .ok (.iload_n 1, 1) := by decide +kernel
theorem dX7_has_1 : decode cX7_has 1 = .ok (.ifCond .lt 21, 3) := by decide +kernel
theorem dX7_has_4 : decode cX7_has 4 = .ok (.iload_n 1, 1) := by decide +kernel
theorem dX7_has_5 : decode cX7_has 5 = .ok (.aload_n 0, 1) := by decide +kernel
theorem dX7_has_6 : decode cX7_has 6 = .ok (.getfield 33, 3) := by decide +kernel
theorem dX7_has_9 : decode cX7_has 9 = .ok (.if_icmp .ge 13, 3) := by decide +kernel
theorem dX7_has_12 : decode cX7_has 12 = .ok (.iload_n 1, 1) := by decide +kernel
theorem dX7_has_13 : decode cX7_has 13 = .ok (.bipush 24, 2) := by decide +kernel
theorem dX7_has_15 : decode cX7_has 15 = .ok (.if_icmp .ge 7, 3) := by decide +kernel
theorem dX7_has_18 : decode cX7_has 18 = .ok (.iconst 1, 1) := by decide +kernel
theorem dX7_has_19 : decode cX7_has 19 = .ok (.goto 4, 3) := by decide +kernel
theorem dX7_has_22 : decode cX7_has 22 = .ok (.iconst 0, 1) := by decide +kernel
theorem dX7_has_23 : decode cX7_has 23 = .ok (.ireturn, 1) := by decide +kernel
set_option maxRecDepth 20000 in
theorem ggX7_startOn_X4_copyFrom : GoodIn wsX7_startOn wsX4_copyFrom := goodIn_r _ [8, 9, 10, 11, 12, 7, 13, 14, 15, 16, 17, 18, 19, 20, 21, 22, 30, 31] (by decide +kernel) (by decide +kernel)
set_option maxRecDepth 20000 in
theorem gX7_startOn_X4_copyFrom : GoodIn wsX7_startOn (wsV RX7 37 RX4 yX4_copyFrom wsX4_copyFrom) := goodIn_app (goodIn_of _ (by decide +kernel)) ggX7_startOn_X4_copyFrom
theorem dX7_startOn_0 : decode cX7_startOn 0 = .ok (.aload_n 0, 1) := by decide +kernel
end
section
theorem dX7_startOn_1 : decode cX7_startOn 1 = .ok (.getfield 14, 3) := by decide +kernel
theorem dX7_startOn_4 : decode cX7_startOn 4 = .ok (.aload_n 1, 1) := by decide +kernel
theorem dX7_startOn_5 : decode cX7_startOn 5 = .ok (.invokevirtual 37, 3) := by decide +kernel
theorem dX7_startOn_8 : decode cX7_startOn 8 = .ok (.aload_n 0, 1) := by decide +kernel
theorem dX7_startOn_9 : decode cX7_startOn 9 = .ok (.iconst 0, 1) := by decide +kernel
theorem dX7_startOn_10 : decode cX7_startOn 10 = .ok (.putfield 33, 3) := by decide +kernel
theorem dX7_startOn_13 : decode cX7_startOn 13 = .ok (.aload_n 0, 1) := by decide +kernel
theorem dX7_startOn_14 : decode cX7_startOn 14 = .ok (.iconst 0, 1) := by decide +kernel
theorem dX7_startOn_15 : decode cX7_startOn 15 = .ok (.putfield 41, 3) := by decide +kernel
theorem dX7_startOn_18 : decode cX7_startOn 18 = .ok (.return_, 1) := by decide +kernel
theorem dX7_add_0 : decode cX7_add 0 = .ok (.aload_n 0, 1) := by decide +kernel
theorem dX7_add_1 : decode cX7_add 1 = .ok (.getfield 33, 3) := by decide +kernel
theorem dX7_add_4 : decode cX7_add 4 = .ok (.ifCond .lt 12, 3) := by decide +kernel
theorem dX7_add_7 : decode cX7_add 7 = .ok (.aload_n 0, 1) := by decide +kernel
theorem dX7_add_8 : decode cX7_add 8 = .ok (.getfield 33, 3) := by decide +kernel
theorem dX7_add_11 : decode cX7_add 11 = .ok (.bipush 24, 2) := by decide +kernel
theorem dX7_add_13 : decode cX7_add 13 = .ok (.if_icmp .lt 9, 3) := by decide +kernel
theorem dX7_add_16 : decode cX7_add 16 = .ok (.aload_n 0, 1) := by decide +kernel
theorem dX7_add_17 : decode cX7_add 17 = .ok (.iconst 1, 1) := by decide +kernel
theorem dX7_add_18 : decode cX7_add 18 = .ok (.putfield 41, 3) := by decide +kernel
theorem dX7_add_21 : decode cX7_add 21 = .ok (.return_, 1) := by decide +kernel
theorem dX7_add_22 : decode cX7_add 22 = .ok (.aload_n 0, 1) := by decide +kernel
theorem dX7_add_23 : decode cX7_add 23 = .ok (.getfield 20, 3) := by decide +kernel
theorem dX7_add_26 : decode cX7_add 26 = .ok (.aload_n 0, 1) := by decide +kernel
theorem dX7_add_27 : decode cX7_add 27 = .ok (.getfield 33, 3) := by decide +kernel
theorem dX7_add_30 : decode cX7_add 30 = .ok (.iload_n 1, 1) := by decide +kernel
theorem dX7_add_31 : decode cX7_add 31 = .ok (.iastore, 1) := by decide +kernel
theorem dX7_add_32 : decode cX7_add 32 = .ok (.aload_n 0, 1) := by decide +kernel
theorem dX7_add_33 : decode cX7_add 33 = .ok (.getfield 24, 3) := by decide +kernel
theorem dX7_add_36 : decode cX7_add 36 = .ok (.aload_n 0, 1) := by decide +kernel
theorem dX7_add_37 : decode cX7_add 37 = .ok (.getfield 33, 3) := by decide +kernel
theorem dX7_add_40 : decode cX7_add 40 = .ok (.iload_n 2, 1) := by decide +kernel
theorem dX7_add_41 : decode cX7_add 41 = .ok (.iastore, 1) := by decide +kernel
theorem dX7_add_42 : decode cX7_add 42 = .ok (.aload_n 0, 1) := by decide +kernel
theorem dX7_add_43 : decode cX7_add 43 = .ok (.getfield 27, 3) := by decide +kernel
theorem dX7_add_46 : decode cX7_add 46 = .ok (.aload_n 0, 1) := by decide +kernel
theorem dX7_add_47 : decode cX7_add 47 = .ok (.getfield 33, 3) := by decide +kernel
theorem dX7_add_50 : decode cX7_add 50 = .ok (.iload_n 3, 1) := by decide +kernel
theorem dX7_add_51 : decode cX7_add 51 = .ok (.iastore, 1) := by decide +kernel
theorem dX7_add_52 : decode cX7_add 52 = .ok (.aload_n 0, 1) := by decide +kernel
theorem dX7_add_53 : decode cX7_add 53 = .ok (.getfield 30, 3) := by decide +kernel
theorem dX7_add_56 : decode cX7_add 56 = .ok (.aload_n 0, 1) := by decide +kernel
theorem dX7_add_57 : decode cX7_add 57 = .ok (.getfield 33, 3) := by decide +kernel
theorem dX7_add_60 : decode cX7_add 60 = .ok (.iload 4, 2) := by decide +kernel
theorem dX7_add_62 : decode cX7_add 62 = .ok (.iastore, 1) := by decide +kernel
theorem dX7_add_63 : decode cX7_add 63 = .ok (.aload_n 0, 1) := by decide +kernel
theorem dX7_add_64 : decode cX7_add 64 = .ok (.dup, 1) := by decide +kernel
theorem dX7_add_65 : decode cX7_add 65 = .ok (.getfield 33, 3) := by decide +kernel
theorem dX7_add_68 : decode cX7_add 68 = .ok (.iconst 1, 1) := by decide +kernel
theorem dX7_add_69 : decode cX7_add 69 = .ok (.iadd, 1) := by decide +kernel
theorem dX7_add_70 : decode cX7_add 70 = .ok (.putfield 33, 3) := by decide +kernel
theorem dX7_add_73 : decode cX7_add 73 = .ok (.return_, 1) := by decide +kernel
theorem dX8_init_0 : decode cX8_init 0 = .ok (.aload_n 0, 1) := by decide +kernel
theorem dX8_init_1 : decode cX8_init 1 = .ok (.invokespecial 3, 3) := by decide +kernel
theorem dX8_init_4 : decode cX8_init 4 = .ok (.aload_n 0, 1) := by decide +kernel
theorem dX8_init_5 : decode cX8_init 5 = .ok (.aload_n 1, 1) := by decide +kernel
theorem dX8_init_6 : decode cX8_init 6 = .ok (.putfield 9, 3) := by decide +kernel
theorem dX8_init_9 : decode cX8_init 9 = .ok (.aload_n 0, 1) := by decide +kernel
theorem dX8_init_10 : decode cX8_init 10 = .ok (.bipush 40, 2) := by decide +kernel
theorem dX8_init_12 : decode cX8_init 12 = .ok (.anewarray 15, 3) := by decide +kernel
theorem dX8_init_15 : decode cX8_init 15 = .ok (.putfield 17, 3) := by decide +kernel
theorem dX8_init_18 : decode cX8_init 18 = .ok (.aload_n 0, 1) := by decide +kernel
theorem dX8_init_19 : decode cX8_init 19 = .ok (.bipush 8, 2) := by decide +kernel
theorem dX8_init_21 : decode cX8_init 21 = .ok (.anewarray 21, 3) := by decide +kernel
theorem dX8_init_24 : decode cX8_init 24 = .ok (.putfield 23, 3) := by decide +kernel
theorem dX8_init_27 : decode cX8_init 27 = .ok (.return_, 1) := by decide +kernel
theorem dX8_known_0 : decode cX8_known 0 = .ok (.iload_n 1, 1) := by decide +kernel
theorem dX8_known_1 : decode cX8_known 1 = .ok (.ifCond .lt 29, 3) := by decide +kernel
theorem dX8_known_4 : decode cX8_known 4 = .ok (.iload_n 1, 1) := by decide +kernel
theorem dX8_known_5 : decode cX8_known 5 = .ok (.aload_n 0, 1) := by decide +kernel
theorem dX8_known_6 : decode cX8_known 6 = .ok (.getfield 27, 3) := by decide +kernel
theorem dX8_known_9 : decode cX8_known 9 = .ok (.if_icmp .ge 21, 3) := by decide +kernel
theorem dX8_known_12 : decode cX8_known 12 = .ok (.iload_n 1, 1) := by decide +kernel
theorem dX8_known_13 : decode cX8_known 13 = .ok (.aload_n 0, 1) := by decide +kernel
theorem dX8_known_14 : decode cX8_known 14 = .ok (.getfield 17, 3) := by decide +kernel
theorem dX8_known_17 : decode cX8_known 17 = .ok (.arraylength, 1) := by decide +kernel
theorem dX8_known_18 : decode cX8_known 18 = .ok (.if_icmp .ge 12, 3) := by decide +kernel
theorem dX8_known_21 : decode cX8_known 21 = .ok (.aload_n 0, 1) := by decide +kernel
theorem dX8_known_22 : decode cX8_known 22 = .ok (.getfield 17, 3) := by decide +kernel
theorem dX8_known_25 : decode cX8_known 25 = .ok (.iload_n 1, 1) := by decide +kernel
theorem dX8_known_26 : decode cX8_known 26 = .ok (.aaload, 1) := by decide +kernel
theorem dX8_known_27 : decode cX8_known 27 = .ok (.goto 4, 3) := by decide +kernel
theorem dX8_known_30 : decode cX8_known 30 = .ok (.aconst_null, 1) := by decide +kernel
theorem dX8_known_31 : decode cX8_known 31 = .ok (.areturn, 1) := by decide +kernel
set_option maxRecDepth 20000 in
theorem ggX8_likeIn_X8_known : GoodIn wsX8_likeIn wsX8_known := goodIn_r _ [9, 1, 10, 34, 35, 36, 37, 38] (by decide +kernel) (by decide +kernel)
set_option maxRecDepth 20000 in
theorem gX8_likeIn_X8_known : GoodIn wsX8_likeIn (wsV RX8 31 RX8 yX8_known wsX8_known) := goodIn_app (goodIn_of _ (by decide +kernel)) ggX8_likeIn_X8_known
set_option maxRecDepth 20000 in
theorem ggX8_likeIn_X3_areLike : GoodIn wsX8_likeIn wsX3_areLike := goodIn_r _ [15, 16, 17, 18, 19, 20, 21, 22, 23, 24, 25, 26, 27, 28, 29, 30, 31, 14, 32, 33, 45, 46, 47, 48] (by decide +kernel) (by decide +kernel)
set_option maxRecDepth 20000 in
theorem gX8_likeIn_X3_areLike : GoodIn wsX8_likeIn (wsV RX8 42 RX3 yX3_areLike wsX3_areLike) := goodIn_app (goodIn_of _ (by decide +kernel)) ggX8_likeIn_X3_areLike
theorem dX8_likeIn_0 : decode cX8_likeIn 0 = .ok (.iconst 0, 1) := by decide +kernel
theorem dX8_likeIn_1 : decode cX8_likeIn 1 = .ok (.istore 5, 2) := by decide +kernel
theorem dX8_likeIn_3 : decode cX8_likeIn 3 = .ok (.iload 5, 2) := by decide +kernel
theorem dX8_likeIn_5 : decode cX8_likeIn 5 = .ok (.aload_n 0, 1) := by decide +kernel
theorem dX8_likeIn_6 : decode cX8_likeIn 6 = .ok (.getfield 27, 3) := by decide +kernel
theorem dX8_likeIn_9 : decode cX8_likeIn 9 = .ok (.if_icmp .ge 53, 3) := by decide +kernel
theorem dX8_likeIn_12 : decode cX8_likeIn 12 = .ok (.aload_n 0, 1) := by decide +kernel
theorem dX8_likeIn_13 : decode cX8_likeIn 13 = .ok (.iload 5, 2) := by decide +kernel
theorem dX8_likeIn_15 : decode cX8_likeIn 15 = .ok (.invokevirtual 31, 3) := by decide +kernel
theorem dX8_likeIn_18 : decode cX8_likeIn 18 = .ok (.astore 6, 2) := by decide +kernel
theorem dX8_likeIn_20 : decode cX8_likeIn 20 = .ok (.aload 6, 2) := by decide +kernel
theorem dX8_likeIn_22 : decode cX8_likeIn 22 = .ok (.ifnull 34, 3) := by decide +kernel
theorem dX8_likeIn_25 : decode cX8_likeIn 25 = .ok (.aload 6, 2) := by decide +kernel
theorem dX8_likeIn_27 : decode cX8_likeIn 27 = .ok (.getfield 35, 3) := by decide +kernel
theorem dX8_likeIn_30 : decode cX8_likeIn 30 = .ok (.iload_n 1, 1) := by decide +kernel
theorem dX8_likeIn_31 : decode cX8_likeIn 31 = .ok (.if_icmp .ne 25, 3) := by decide +kernel
theorem dX8_likeIn_34 : decode cX8_likeIn 34 = .ok (.aload_n 0, 1) := by decide +kernel
theorem dX8_likeIn_35 : decode cX8_likeIn 35 = .ok (.getfield 9, 3) := by decide +kernel
theorem dX8_likeIn_38 : decode cX8_likeIn 38 = .ok (.aload 6, 2) := by decide +kernel
theorem dX8_likeIn_40 : decode cX8_likeIn 40 = .ok (.getfield 38, 3) := by decide +kernel
theorem dX8_likeIn_43 : decode cX8_likeIn 43 = .ok (.aload_n 2, 1) := by decide +kernel
theorem dX8_likeIn_44 : decode cX8_likeIn 44 = .ok (.iload_n 3, 1) := by decide +kernel
theorem dX8_likeIn_45 : decode cX8_likeIn 45 = .ok (.iload 4, 2) := by decide +kernel
theorem dX8_likeIn_47 : decode cX8_likeIn 47 = .ok (.invokevirtual 42, 3) := by decide +kernel
theorem dX8_likeIn_50 : decode cX8_likeIn 50 = .ok (.ifCond .eq 6, 3) := by decide +kernel
theorem dX8_likeIn_53 : decode cX8_likeIn 53 = .ok (.iload 5, 2) := by decide +kernel
theorem dX8_likeIn_55 : decode cX8_likeIn 55 = .ok (.ireturn, 1) := by decide +kernel
theorem dX8_likeIn_56 : decode cX8_likeIn 56 = .ok (.iinc 5 1, 3) := by decide +kernel
theorem dX8_likeIn_59 : decode cX8_likeIn 59 = .ok (.goto (-56), 3) := by decide +kernel
theorem dX8_likeIn_62 : decode cX8_likeIn 62 = .ok (.iconst (-1), 1) := by decide +kernel
theorem dX8_likeIn_63 : decode cX8_likeIn 63 = .ok (.ireturn, 1) := by decide +kernel
set_option maxRecDepth 20000 in
theorem ggX8_joinLike_X3_areLike : GoodIn wsX8_joinLike wsX3_areLike := goodIn_r _ [9, 10, 11, 12, 13, 14, 15, 16, 17, 18, 19, 20, 21, 22, 23, 24, 25, 8, 26, 27, 36, 37, 38, 39] (by decide +kernel) (by decide +kernel)
set_option maxRecDepth 20000 in
theorem gX8_joinLike_X3_areLike : GoodIn wsX8_joinLike (wsV RX8 42 RX3 yX3_areLike wsX3_areLike) := goodIn_app (goodIn_of _ (by decide +kernel)) ggX8_joinLike_X3_areLike
theorem dX8_joinLike_0 : decode cX8_joinLike 0 = .ok (.iconst 0, 1) := by decide +kernel
theorem dX8_joinLike_1 : decode cX8_joinLike 1 = .ok (.istore 4, 2) := by decide +kernel
theorem dX8_joinLike_3 : decode cX8_joinLike 3 = .ok (.iload 4, 2) := by decide +kernel
theorem dX8_joinLike_5 : decode cX8_joinLike 5 = .ok (.aload_n 0, 1) := by decide +kernel
theorem dX8_joinLike_6 : decode cX8_joinLike 6 = .ok (.getfield 48, 3) := by decide +kernel
theorem dX8_joinLike_9 : decode cX8_joinLike 9 = .ok (.if_icmp .ge 54, 3) := by decide +kernel
theorem dX8_joinLike_12 : decode cX8_joinLike 12 = .ok (.iload 4, 2) := by decide +kernel
theorem dX8_joinLike_14 : decode cX8_joinLike 14 = .ok (.aload_n 0, 1) := by decide +kernel
theorem dX8_joinLike_15 : decode cX8_joinLike 15 = .ok (.getfield 23, 3) := by decide +kernel
theorem dX8_joinLike_18 : decode cX8_joinLike 18 = .ok (.arraylength, 1) := by decide +kernel
theorem dX8_joinLike_19 : decode cX8_joinLike 19 = .ok (.if_icmp .ge 44, 3) := by decide +kernel
theorem dX8_joinLike_22 : decode cX8_joinLike 22 = .ok (.aload_n 0, 1) := by decide +kernel
theorem dX8_joinLike_23 : decode cX8_joinLike 23 = .ok (.getfield 23, 3) := by decide +kernel
theorem dX8_joinLike_26 : decode cX8_joinLike 26 = .ok (.iload 4, 2) := by decide +kernel
theorem dX8_joinLike_28 : decode cX8_joinLike 28 = .ok (.aaload, 1) := by decide +kernel
theorem dX8_joinLike_29 : decode cX8_joinLike 29 = .ok (.astore 5, 2) := by decide +kernel
theorem dX8_joinLike_31 : decode cX8_joinLike 31 = .ok (.aload 5, 2) := by decide +kernel
theorem dX8_joinLike_33 : decode cX8_joinLike 33 = .ok (.ifnull 24, 3) := by decide +kernel
theorem dX8_joinLike_36 : decode cX8_joinLike 36 = .ok (.aload_n 0, 1) := by decide +kernel
theorem dX8_joinLike_37 : decode cX8_joinLike 37 = .ok (.getfield 9, 3) := by decide +kernel
theorem dX8_joinLike_40 : decode cX8_joinLike 40 = .ok (.aload 5, 2) := by decide +kernel
theorem dX8_joinLike_42 : decode cX8_joinLike 42 = .ok (.getfield 51, 3) := by decide +kernel
theorem dX8_joinLike_45 : decode cX8_joinLike 45 = .ok (.aload_n 1, 1) := by decide +kernel
theorem dX8_joinLike_46 : decode cX8_joinLike 46 = .ok (.iload_n 2, 1) := by decide +kernel
theorem dX8_joinLike_47 : decode cX8_joinLike 47 = .ok (.iload_n 3, 1) := by decide +kernel
theorem dX8_joinLike_48 : decode cX8_joinLike 48 = .ok (.invokevirtual 42, 3) := by decide +kernel
theorem dX8_joinLike_51 : decode cX8_joinLike 51 = .ok (.ifCond .eq 6, 3) := by decide +kernel
theorem dX8_joinLike_54 : decode cX8_joinLike 54 = .ok (.aload 5, 2) := by decide +kernel
theorem dX8_joinLike_56 : decode cX8_joinLike 56 = .ok (.areturn, 1) := by decide +kernel
theorem dX8_joinLike_57 : decode cX8_joinLike 57 = .ok (.iinc 4 1, 3) := by decide +kernel
theorem dX8_joinLike_60 : decode cX8_joinLike 60 = .ok (.goto (-57), 3) := by decide +kernel
theorem dX8_joinLike_63 : decode cX8_joinLike 63 = .ok (.aconst_null, 1) := by decide +kernel
theorem dX8_joinLike_64 : decode cX8_joinLike 64 = .ok (.areturn, 1) := by decide +kernel
set_option maxRecDepth 20000 in
theorem ggX8_addWord_X9_init : GoodIn wsX8_addWord wsX9_init := goodIn_r _ [8, 9, 10, 11, 12, 13, 14, 15, 16, 17, 18, 19, 20, 21, 22, 23, 24, 25, 26, 27, 28, 29, 30, 31, 32, 33, 34, 35, 36, 37, 38, 39, 40, 41, 42, 43, 44, 45, 57, 58, 51, 52, 53, 54, 55, 56] (by decide +kernel) (by decide +kernel)
set_option maxRecDepth 20000 in
theorem gX8_addWord_X9_init : GoodIn wsX8_addWord (wsX9_init) := ggX8_addWord_X9_init
theorem dX8_addWord_0 : decode cX8_addWord 0 = .ok (.aload_n 0, 1) := by decide +kernel
theorem dX8_addWord_1 : decode cX8_addWord 1 = .ok (.getfield 27, 3) := by decide +kernel
theorem dX8_addWord_4 : decode cX8_addWord 4 = .ok (.ifCond .lt 15, 3) := by decide +kernel
theorem dX8_addWord_7 : decode cX8_addWord 7 = .ok (.aload_n 0, 1) := by decide +kernel
theorem dX8_addWord_8 : decode cX8_addWord 8 = .ok (.getfield 27, 3) := by decide +kernel
theorem dX8_addWord_11 : decode cX8_addWord 11 = .ok (.aload_n 0, 1) := by decide +kernel
theorem dX8_addWord_12 : decode cX8_addWord 12 = .ok (.getfield 17, 3) := by decide +kernel
theorem dX8_addWord_15 : decode cX8_addWord 15 = .ok (.arraylength, 1) := by decide +kernel
theorem dX8_addWord_16 : decode cX8_addWord 16 = .ok (.if_icmp .lt 5, 3) := by decide +kernel
theorem dX8_addWord_19 : decode cX8_addWord 19 = .ok (.iconst (-1), 1) := by decide +kernel
theorem dX8_addWord_20 : decode cX8_addWord 20 = .ok (.ireturn, 1) := by decide +kernel
theorem dX8_addWord_21 : decode cX8_addWord 21 = .ok (.aload_n 0, 1) := by decide +kernel
theorem dX8_addWord_22 : decode cX8_addWord 22 = .ok (.getfield 17, 3) := by decide +kernel
theorem dX8_addWord_25 : decode cX8_addWord 25 = .ok (.aload_n 0, 1) := by decide +kernel
theorem dX8_addWord_26 : decode cX8_addWord 26 = .ok (.getfield 27, 3) := by decide +kernel
theorem dX8_addWord_29 : decode cX8_addWord 29 = .ok (.new 15, 3) := by decide +kernel
theorem dX8_addWord_32 : decode cX8_addWord 32 = .ok (.dup, 1) := by decide +kernel
theorem dX8_addWord_33 : decode cX8_addWord 33 = .ok (.aload_n 1, 1) := by decide +kernel
theorem dX8_addWord_34 : decode cX8_addWord 34 = .ok (.iload_n 2, 1) := by decide +kernel
theorem dX8_addWord_35 : decode cX8_addWord 35 = .ok (.invokespecial 52, 3) := by decide +kernel
theorem dX8_addWord_38 : decode cX8_addWord 38 = .ok (.aastore, 1) := by decide +kernel
theorem dX8_addWord_39 : decode cX8_addWord 39 = .ok (.aload_n 0, 1) := by decide +kernel
theorem dX8_addWord_40 : decode cX8_addWord 40 = .ok (.dup, 1) := by decide +kernel
theorem dX8_addWord_41 : decode cX8_addWord 41 = .ok (.getfield 27, 3) := by decide +kernel
theorem dX8_addWord_44 : decode cX8_addWord 44 = .ok (.iconst 1, 1) := by decide +kernel
theorem dX8_addWord_45 : decode cX8_addWord 45 = .ok (.iadd, 1) := by decide +kernel
theorem dX8_addWord_46 : decode cX8_addWord 46 = .ok (.putfield 27, 3) := by decide +kernel
theorem dX8_addWord_49 : decode cX8_addWord 49 = .ok (.aload_n 0, 1) := by decide +kernel
theorem dX8_addWord_50 : decode cX8_addWord 50 = .ok (.getfield 27, 3) := by decide +kernel
theorem dX8_addWord_53 : decode cX8_addWord 53 = .ok (.iconst 1, 1) := by decide +kernel
theorem dX8_addWord_54 : decode cX8_addWord 54 = .ok (.isub, 1) := by decide +kernel
theorem dX8_addWord_55 : decode cX8_addWord 55 = .ok (.ireturn, 1) := by decide +kernel
set_option maxRecDepth 20000 in
theorem ggX8_addJoin_X2_init : GoodIn wsX8_addJoin wsX2_init := goodIn_r _ [8, 9, 10, 11, 12, 13, 14, 15, 16, 17, 18, 19, 20, 21, 22, 23, 24, 25, 26, 27, 28, 29, 30, 31, 32, 33, 34, 35, 36, 37, 38, 39, 40, 41, 42, 43, 44, 45, 54, 55, 51, 52, 53] (by decide +kernel) (by decide +kernel)
set_option maxRecDepth 20000 in
theorem gX8_addJoin_X2_init : GoodIn wsX8_addJoin (wsX2_init) := ggX8_addJoin_X2_init
theorem dX8_addJoin_0 : decode cX8_addJoin 0 = .ok (.aload_n 0, 1) := by decide +kernel
theorem dX8_addJoin_1 : decode cX8_addJoin 1 = .ok (.getfield 48, 3) := by decide +kernel
theorem dX8_addJoin_4 : decode cX8_addJoin 4 = .ok (.ifCond .lt 15, 3) := by decide +kernel
theorem dX8_addJoin_7 : decode cX8_addJoin 7 = .ok (.aload_n 0, 1) := by decide +kernel
theorem dX8_addJoin_8 : decode cX8_addJoin 8 = .ok (.getfield 48, 3) := by decide +kernel
theorem dX8_addJoin_11 : decode cX8_addJoin 11 = .ok (.aload_n 0, 1) := by decide +kernel
theorem dX8_addJoin_12 : decode cX8_addJoin 12 = .ok (.getfield 23, 3) := by decide +kernel
theorem dX8_addJoin_15 : decode cX8_addJoin 15 = .ok (.arraylength, 1) := by decide +kernel
theorem dX8_addJoin_16 : decode cX8_addJoin 16 = .ok (.if_icmp .lt 5, 3) := by decide +kernel
theorem dX8_addJoin_19 : decode cX8_addJoin 19 = .ok (.iconst 0, 1) := by decide +kernel
theorem dX8_addJoin_20 : decode cX8_addJoin 20 = .ok (.ireturn, 1) := by decide +kernel
theorem dX8_addJoin_21 : decode cX8_addJoin 21 = .ok (.aload_n 0, 1) := by decide +kernel
theorem dX8_addJoin_22 : decode cX8_addJoin 22 = .ok (.getfield 23, 3) := by decide +kernel
theorem dX8_addJoin_25 : decode cX8_addJoin 25 = .ok (.aload_n 0, 1) := by decide +kernel
theorem dX8_addJoin_26 : decode cX8_addJoin 26 = .ok (.getfield 48, 3) := by decide +kernel
theorem dX8_addJoin_29 : decode cX8_addJoin 29 = .ok (.new 21, 3) := by decide +kernel
theorem dX8_addJoin_32 : decode cX8_addJoin 32 = .ok (.dup, 1) := by decide +kernel
theorem dX8_addJoin_33 : decode cX8_addJoin 33 = .ok (.aload_n 1, 1) := by decide +kernel
theorem dX8_addJoin_34 : decode cX8_addJoin 34 = .ok (.iload_n 2, 1) := by decide +kernel
theorem dX8_addJoin_35 : decode cX8_addJoin 35 = .ok (.iload_n 3, 1) := by decide +kernel
theorem dX8_addJoin_36 : decode cX8_addJoin 36 = .ok (.invokespecial 55, 3) := by decide +kernel
theorem dX8_addJoin_39 : decode cX8_addJoin 39 = .ok (.aastore, 1) := by decide +kernel
theorem dX8_addJoin_40 : decode cX8_addJoin 40 = .ok (.aload_n 0, 1) := by decide +kernel
theorem dX8_addJoin_41 : decode cX8_addJoin 41 = .ok (.dup, 1) := by decide +kernel
theorem dX8_addJoin_42 : decode cX8_addJoin 42 = .ok (.getfield 48, 3) := by decide +kernel
theorem dX8_addJoin_45 : decode cX8_addJoin 45 = .ok (.iconst 1, 1) := by decide +kernel
theorem dX8_addJoin_46 : decode cX8_addJoin 46 = .ok (.iadd, 1) := by decide +kernel
theorem dX8_addJoin_47 : decode cX8_addJoin 47 = .ok (.putfield 48, 3) := by decide +kernel
theorem dX8_addJoin_50 : decode cX8_addJoin 50 = .ok (.iconst 1, 1) := by decide +kernel
theorem dX8_addJoin_51 : decode cX8_addJoin 51 = .ok (.ireturn, 1) := by decide +kernel
set_option maxRecDepth 20000 in
theorem ggX9_init_X4_init : GoodIn wsX9_init wsX4_init := goodIn_r _ [13, 14, 2, 3, 15, 16, 17, 18, 19, 20, 38, 39] (by decide +kernel) (by decide +kernel)
set_option maxRecDepth 20000 in
theorem gX9_init_X4_init : GoodIn wsX9_init (wsX4_init) := ggX9_init_X4_init
set_option maxRecDepth 20000 in
theorem ggX9_init_X4_copyFrom : GoodIn wsX9_init wsX4_copyFrom := goodIn_r _ [24, 25, 26, 27, 28, 6, 29, 30, 31, 32, 33, 20, 34, 35, 36, 37, 38, 39] (by decide +kernel) (by decide +kernel)
set_option maxRecDepth 20000 in
theorem gX9_init_X4_copyFrom : GoodIn wsX9_init (wsV RX9 24 RX4 yX4_copyFrom wsX4_copyFrom) := goodIn_app (goodIn_of _ (by decide +kernel)) ggX9_init_X4_copyFrom
theorem dX9_init_0 : decode cX9_init 0 = .ok (.aload_n 0, 1) := by decide +kernel
theorem dX9_init_1 : decode cX9_init 1 = .ok (.invokespecial 3, 3) := by decide +kernel
theorem dX9_init_4 : decode cX9_init 4 = .ok (.aload_n 0, 1) := by decide +kernel
theorem dX9_init_5 : decode cX9_init 5 = .ok (.new 9, 3) := by decide +kernel
theorem dX9_init_8 : decode cX9_init 8 = .ok (.dup, 1) := by decide +kernel
theorem dX9_init_9 : decode cX9_init 9 = .ok (.aload_n 1, 1) := by decide +kernel
theorem dX9_init_10 : decode cX9_init 10 = .ok (.getfield 11, 3) := by decide +kernel
theorem dX9_init_13 : decode cX9_init 13 = .ok (.invokespecial 15, 3) := by decide +kernel
theorem dX9_init_16 : decode cX9_init 16 = .ok (.putfield 18, 3) := by decide +kernel
theorem dX9_init_19 : decode cX9_init 19 = .ok (.aload_n 0, 1) := by decide +kernel
theorem dX9_init_20 : decode cX9_init 20 = .ok (.getfield 18, 3) := by decide +kernel
theorem dX9_init_23 : decode cX9_init 23 = .ok (.aload_n 1, 1) := by decide +kernel
theorem dX9_init_24 : decode cX9_init 24 = .ok (.invokevirtual 24, 3) := by decide +kernel
theorem dX9_init_27 : decode cX9_init 27 = .ok (.aload_n 0, 1) := by decide +kernel
theorem dX9_init_28 : decode cX9_init 28 = .ok (.iload_n 2, 1) := by decide +kernel
theorem dX9_init_29 : decode cX9_init 29 = .ok (.putfield 28, 3) := by decide +kernel
theorem dX9_init_32 : decode cX9_init 32 = .ok (.aload_n 0, 1) := by decide +kernel
theorem dX9_init_33 : decode cX9_init 33 = .ok (.iconst (-1), 1) := by decide +kernel
theorem dX9_init_34 : decode cX9_init 34 = .ok (.putfield 31, 3) := by decide +kernel
theorem dX9_init_37 : decode cX9_init 37 = .ok (.return_, 1) := by decide +kernel
theorem dX9_isOneOf_0 : decode cX9_isOneOf 0 = .ok (.aload_n 0, 1) := by decide +kernel
theorem dX9_isOneOf_1 : decode cX9_isOneOf 1 = .ok (.getfield 34, 3) := by decide +kernel
theorem dX9_isOneOf_4 : decode cX9_isOneOf 4 = .ok (.iload_n 1, 1) := by decide +kernel
theorem dX9_isOneOf_5 : decode cX9_isOneOf 5 = .ok (.iand, 1) := by decide +kernel
theorem dX9_isOneOf_6 : decode cX9_isOneOf 6 = .ok (.ifCond .eq 7, 3) := by decide +kernel
theorem dX9_isOneOf_9 : decode cX9_isOneOf 9 = .ok (.iconst 1, 1) := by decide +kernel
theorem dX9_isOneOf_10 : decode cX9_isOneOf 10 = .ok (.goto 4, 3) := by decide +kernel
theorem dX9_isOneOf_13 : decode cX9_isOneOf 13 = .ok (.iconst 0, 1) := by decide +kernel
theorem dX9_isOneOf_14 : decode cX9_isOneOf 14 = .ok (.ireturn, 1) := by decide +kernel
set_option maxRecDepth 20000 in
theorem ggX10_init_X3_init : GoodIn wsX10_init wsX3_init := goodIn_r _ [47, 48, 2, 3, 49, 50, 51, 98, 99] (by decide +kernel) (by decide +kernel)
set_option maxRecDepth 20000 in
theorem gX10_init_X3_init : GoodIn wsX10_init (wsX3_init) := ggX10_init_X3_init
set_option maxRecDepth 20000 in
theorem ggX10_init_X4_init : GoodIn wsX10_init wsX4_init := goodIn_r _ [54, 55, 2, 3, 56, 12, 9, 13, 50, 57, 110, 111] (by decide +kernel) (by decide +kernel)
set_option maxRecDepth 20000 in
theorem gX10_init_X4_init : GoodIn wsX10_init (wsX4_init) := ggX10_init_X4_init
set_option maxRecDepth 20000 in
theorem ggX10_init_X8_init : GoodIn wsX10_init wsX8_init := goodIn_r _ [60, 61, 2, 3, 62, 63, 64, 65, 66, 112, 113, 114, 115, 116] (by decide +kernel) (by decide +kernel)
set_option maxRecDepth 20000 in
theorem gX10_init_X8_init : GoodIn wsX10_init (wsX8_init) := ggX10_init_X8_init
set_option maxRecDepth 20000 in
theorem ggX10_init_X1_init : GoodIn wsX10_init wsX1_init := goodIn_r _ [69, 70, 2, 3, 71, 72, 73, 117, 118, 119, 120, 121] (by decide +kernel) (by decide +kernel)
set_option maxRecDepth 20000 in
theorem gX10_init_X1_init : GoodIn wsX10_init (wsX1_init) := ggX10_init_X1_init
set_option maxRecDepth 20000 in
theorem ggX10_init_X6_init : GoodIn wsX10_init wsX6_init := goodIn_r _ [76, 77, 2, 3, 50, 78, 79, 80, 122, 123, 124, 125, 126, 127] (by decide +kernel) (by decide +kernel)
set_option maxRecDepth 20000 in
theorem gX10_init_X6_init : GoodIn wsX10_init (wsX6_init) := ggX10_init_X6_init
set_option maxRecDepth 20000 in
theorem ggX10_init_X5_init : GoodIn wsX10_init wsX5_init := goodIn_r _ [82, 83, 2, 3] (by decide +kernel) (by decide +kernel)
set_option maxRecDepth 20000 in
theorem gX10_init_X5_init_n64 : GoodIn wsX10_init (wsX5_init) := ggX10_init_X5_init
set_option maxRecDepth 20000 in
theorem ggX10_init_X0_init : GoodIn wsX10_init wsX0_init := goodIn_r _ [85, 86, 2, 3] (by decide +kernel) (by decide +kernel)
set_option maxRecDepth 20000 in
theorem gX10_init_X0_init_n71 : GoodIn wsX10_init (wsX0_init) := ggX10_init_X0_init
set_option maxRecDepth 20000 in
theorem ggX10_init_X7_init : GoodIn wsX10_init wsX7_init := goodIn_r _ [89, 90, 2, 3, 91, 16, 17, 92, 50, 93, 94, 95, 96, 97, 53, 54, 55, 56, 12, 9, 13, 57, 110, 111, 133, 134, 135, 136, 137, 138, 139] (by decide +kernel) (by decide +kernel)
set_option maxRecDepth 20000 in
theorem gX10_init_X7_init : GoodIn wsX10_init (wsX7_init) := ggX10_init_X7_init
theorem dX10_init_0 : decode cX10_init 0 = .ok (.aload_n 0, 1) := by decide +kernel
theorem dX10_init_1 : decode cX10_init 1 = .ok (.invokespecial 3, 3) := by decide +kernel
theorem dX10_init_4 : decode cX10_init 4 = .ok (.aload_n 0, 1) := by decide +kernel
theorem dX10_init_5 : decode cX10_init 5 = .ok (.new 9, 3) := by decide +kernel
theorem dX10_init_8 : decode cX10_init 8 = .ok (.dup, 1) := by decide +kernel
theorem dX10_init_9 : decode cX10_init 9 = .ok (.iconst 1, 1) := by decide +kernel
theorem dX10_init_10 : decode cX10_init 10 = .ok (.bipush 12, 2) := by decide +kernel
theorem dX10_init_12 : decode cX10_init 12 = .ok (.iload_n 1, 1) := by decide +kernel
theorem dX10_init_13 : decode cX10_init 13 = .ok (.invokestatic 11, 3) := by decide +kernel
theorem dX10_init_16 : decode cX10_init 16 = .ok (.invokestatic 17, 3) := by decide +kernel
theorem dX10_init_19 : decode cX10_init 19 = .ok (.invokespecial 20, 3) := by decide +kernel
theorem dX10_init_22 : decode cX10_init 22 = .ok (.putfield 23, 3) := by decide +kernel
theorem dX10_init_25 : decode cX10_init 25 = .ok (.aload_n 0, 1) := by decide +kernel
theorem dX10_init_26 : decode cX10_init 26 = .ok (.new 27, 3) := by decide +kernel
theorem dX10_init_29 : decode cX10_init 29 = .ok (.dup, 1) := by decide +kernel
theorem dX10_init_30 : decode cX10_init 30 = .ok (.bipush 20, 2) := by decide +kernel
theorem dX10_init_32 : decode cX10_init 32 = .ok (.invokespecial 29, 3) := by decide +kernel
theorem dX10_init_35 : decode cX10_init 35 = .ok (.putfield 30, 3) := by decide +kernel
theorem dX10_init_38 : decode cX10_init 38 = .ok (.aload_n 0, 1) := by decide +kernel
theorem dX10_init_39 : decode cX10_init 39 = .ok (.new 34, 3) := by decide +kernel
theorem dX10_init_42 : decode cX10_init 42 = .ok (.dup, 1) := by decide +kernel
theorem dX10_init_43 : decode cX10_init 43 = .ok (.aload_n 0, 1) := by decide +kernel
theorem dX10_init_44 : decode cX10_init 44 = .ok (.getfield 23, 3) := by decide +kernel
theorem dX10_init_47 : decode cX10_init 47 = .ok (.invokespecial 36, 3) := by decide +kernel
theorem dX10_init_50 : decode cX10_init 50 = .ok (.putfield 39, 3) := by decide +kernel
theorem dX10_init_53 : decode cX10_init 53 = .ok (.aload_n 0, 1) := by decide +kernel
theorem dX10_init_54 : decode cX10_init 54 = .ok (.new 27, 3) := by decide +kernel
theorem dX10_init_57 : decode cX10_init 57 = .ok (.dup, 1) := by decide +kernel
theorem dX10_init_58 : decode cX10_init 58 = .ok (.bipush 80, 2) := by decide +kernel
theorem dX10_init_60 : decode cX10_init 60 = .ok (.invokespecial 29, 3) := by decide +kernel
theorem dX10_init_63 : decode cX10_init 63 = .ok (.putfield 43, 3) := by decide +kernel
theorem dX10_init_66 : decode cX10_init 66 = .ok (.aload_n 0, 1) := by decide +kernel
theorem dX10_init_67 : decode cX10_init 67 = .ok (.new 46, 3) := by decide +kernel
theorem dX10_init_70 : decode cX10_init 70 = .ok (.dup, 1) := by decide +kernel
theorem dX10_init_71 : decode cX10_init 71 = .ok (.aload_n 0, 1) := by decide +kernel
theorem dX10_init_72 : decode cX10_init 72 = .ok (.getfield 23, 3) := by decide +kernel
theorem dX10_init_75 : decode cX10_init 75 = .ok (.aload_n 0, 1) := by decide +kernel
theorem dX10_init_76 : decode cX10_init 76 = .ok (.getfield 39, 3) := by decide +kernel
theorem dX10_init_79 : decode cX10_init 79 = .ok (.aload_n 0, 1) := by decide +kernel
theorem dX10_init_80 : decode cX10_init 80 = .ok (.getfield 43, 3) := by decide +kernel
theorem dX10_init_83 : decode cX10_init 83 = .ok (.invokespecial 48, 3) := by decide +kernel
theorem dX10_init_86 : decode cX10_init 86 = .ok (.putfield 51, 3) := by decide +kernel
theorem dX10_init_89 : decode cX10_init 89 = .ok (.aload_n 0, 1) := by decide +kernel
theorem dX10_init_90 : decode cX10_init 90 = .ok (.new 55, 3) := by decide +kernel
theorem dX10_init_93 : decode cX10_init 93 = .ok (.dup, 1) := by decide +kernel
theorem dX10_init_94 : decode cX10_init 94 = .ok (.invokespecial 57, 3) := by decide +kernel
theorem dX10_init_97 : decode cX10_init 97 = .ok (.putfield 58, 3) := by decide +kernel
theorem dX10_init_100 : decode cX10_init 100 = .ok (.aload_n 0, 1) := by decide +kernel
theorem dX10_init_101 : decode cX10_init 101 = .ok (.new 62, 3) := by decide +kernel
theorem dX10_init_104 : decode cX10_init 104 = .ok (.dup, 1) := by decide +kernel
theorem dX10_init_105 : decode cX10_init 105 = .ok (.invokespecial 64, 3) := by decide +kernel
theorem dX10_init_108 : decode cX10_init 108 = .ok (.putfield 65, 3) := by decide +kernel
theorem dX10_init_111 : decode cX10_init 111 = .ok (.aload_n 0, 1) := by decide +kernel
theorem dX10_init_112 : decode cX10_init 112 = .ok (.new 69, 3) := by decide +kernel
theorem dX10_init_115 : decode cX10_init 115 = .ok (.dup, 1) := by decide +kernel
theorem dX10_init_116 : decode cX10_init 116 = .ok (.invokespecial 71, 3) := by decide +kernel
theorem dX10_init_119 : decode cX10_init 119 = .ok (.putfield 72, 3) := by decide +kernel
theorem dX10_init_122 : decode cX10_init 122 = .ok (.aload_n 0, 1) := by decide +kernel
theorem dX10_init_123 : decode cX10_init 123 = .ok (.new 76, 3) := by decide +kernel
theorem dX10_init_126 : decode cX10_init 126 = .ok (.dup, 1) := by decide +kernel
theorem dX10_init_127 : decode cX10_init 127 = .ok (.invokespecial 78, 3) := by decide +kernel
theorem dX10_init_130 : decode cX10_init 130 = .ok (.putfield 79, 3) := by decide +kernel
theorem dX10_init_133 : decode cX10_init 133 = .ok (.aload_n 0, 1) := by decide +kernel
theorem dX10_init_134 : decode cX10_init 134 = .ok (.new 76, 3) := by decide +kernel
theorem dX10_init_137 : decode cX10_init 137 = .ok (.dup, 1) := by decide +kernel
theorem dX10_init_138 : decode cX10_init 138 = .ok (.invokespecial 78, 3) := by decide +kernel
theorem dX10_init_141 : decode cX10_init 141 = .ok (.putfield 83, 3) := by decide +kernel
theorem dX10_init_144 : decode cX10_init 144 = .ok (.return_, 1) := by decide +kernel
set_option maxRecDepth 20000 in
theorem ggX10_fold_X3_isFoldable : GoodIn wsX10_fold wsX3_isFoldable := goodIn_r _ [8] (by decide +kernel) (by decide +kernel)
set_option maxRecDepth 20000 in
theorem gX10_fold_X3_isFoldable : GoodIn wsX10_fold (va_wsS RX10 86 yX3_isFoldable wsX3_isFoldable) := goodIn_app (goodIn_of _ (by decide +kernel)) ggX10_fold_X3_isFoldable
set_option maxRecDepth 20000 in
theorem ggX10_fold_X3_isSmall : GoodIn wsX10_fold wsX3_isSmall := goodIn_r _ [11] (by decide +kernel) (by decide +kernel)
set_option maxRecDepth 20000 in
theorem gX10_fold_X3_isSmall : GoodIn wsX10_fold (va_wsS RX10 90 yX3_isSmall wsX3_isSmall) := goodIn_app (goodIn_of _ (by decide +kernel)) ggX10_fold_X3_isSmall
set_option maxRecDepth 20000 in
theorem ggX10_fold_X3_folded : GoodIn wsX10_fold wsX3_folded := goodIn_r _ [15, 16, 36, 37] (by decide +kernel) (by decide +kernel)
set_option maxRecDepth 20000 in
theorem gX10_fold_X3_folded : GoodIn wsX10_fold (wsV RX10 100 RX3 yX3_folded wsX3_folded) := goodIn_app (goodIn_of _ (by decide +kernel)) ggX10_fold_X3_folded
set_option maxRecDepth 20000 in
theorem ggX10_fold_X3_changeFold : GoodIn wsX10_fold wsX3_changeFold := goodIn_r _ [20, 16, 36, 37] (by decide +kernel) (by decide +kernel)
set_option maxRecDepth 20000 in
theorem gX10_fold_X3_changeFold : GoodIn wsX10_fold (wsV RX10 104 RX3 yX3_changeFold wsX3_changeFold) := goodIn_app (goodIn_of _ (by decide +kernel)) ggX10_fold_X3_changeFold
theorem dX10_fold_0 : decode cX10_fold 0 = .ok (.iload_n 1, 1) := by decide +kernel
theorem dX10_fold_1 : decode cX10_fold 1 = .ok (.invokestatic 86, 3) := by decide +kernel
theorem dX10_fold_4 : decode cX10_fold 4 = .ok (.ifCond .eq 10, 3) := by decide +kernel
theorem dX10_fold_7 : decode cX10_fold 7 = .ok (.iload_n 2, 1) := by decide +kernel
theorem dX10_fold_8 : decode cX10_fold 8 = .ok (.invokestatic 90, 3) := by decide +kernel
theorem dX10_fold_11 : decode cX10_fold 11 = .ok (.ifCond .ne 6, 3) := by decide +kernel
theorem dX10_fold_14 : decode cX10_fold 14 = .ok (.bipush (-3), 2) := by decide +kernel
theorem dX10_fold_16 : decode cX10_fold 16 = .ok (.ireturn, 1) := by decide +kernel
theorem dX10_fold_17 : decode cX10_fold 17 = .ok (.aload_n 0, 1) := by decide +kernel
theorem dX10_fold_18 : decode cX10_fold 18 = .ok (.getfield 39, 3) := by decide +kernel
theorem dX10_fold_21 : decode cX10_fold 21 = .ok (.getfield 93, 3) := by decide +kernel
theorem dX10_fold_24 : decode cX10_fold 24 = .ok (.ifCond .gt 13, 3) := by decide +kernel
theorem dX10_fold_27 : decode cX10_fold 27 = .ok (.aload_n 0, 1) := by decide +kernel
theorem dX10_fold_28 : decode cX10_fold 28 = .ok (.getfield 39, 3) := by decide +kernel
theorem dX10_fold_31 : decode cX10_fold 31 = .ok (.getfield 97, 3) := by decide +kernel
theorem dX10_fold_34 : decode cX10_fold 34 = .ok (.ifCond .le 6, 3) := by decide +kernel
theorem dX10_fold_37 : decode cX10_fold 37 = .ok (.bipush (-4), 2) := by decide +kernel
theorem dX10_fold_39 : decode cX10_fold 39 = .ok (.ireturn, 1) := by decide +kernel
theorem dX10_fold_40 : decode cX10_fold 40 = .ok (.aload_n 0, 1) := by decide +kernel
theorem dX10_fold_41 : decode cX10_fold 41 = .ok (.getfield 23, 3) := by decide +kernel
theorem dX10_fold_44 : decode cX10_fold 44 = .ok (.iload_n 1, 1) := by decide +kernel
theorem dX10_fold_45 : decode cX10_fold 45 = .ok (.invokevirtual 100, 3) := by decide +kernel
theorem dX10_fold_48 : decode cX10_fold 48 = .ok (.istore_n 3, 1) := by decide +kernel
theorem dX10_fold_49 : decode cX10_fold 49 = .ok (.aload_n 0, 1) := by decide +kernel
theorem dX10_fold_50 : decode cX10_fold 50 = .ok (.getfield 23, 3) := by decide +kernel
theorem dX10_fold_53 : decode cX10_fold 53 = .ok (.iload_n 1, 1) := by decide +kernel
theorem dX10_fold_54 : decode cX10_fold 54 = .ok (.iload_n 2, 1) := by decide +kernel
theorem dX10_fold_55 : decode cX10_fold 55 = .ok (.invokevirtual 104, 3) := by decide +kernel
theorem dX10_fold_58 : decode cX10_fold 58 = .ok (.iload_n 3, 1) := by decide +kernel
theorem dX10_fold_59 : decode cX10_fold 59 = .ok (.ireturn, 1) := by decide +kernel
set_option maxRecDepth 20000 in
theorem ggX10_letter_X3_isLetter : GoodIn wsX10_letter wsX3_isLetter := goodIn_r _ [6, 7, 8, 5, 9, 10, 11, 12] (by decide +kernel) (by decide +kernel)
set_option maxRecDepth 20000 in
theorem gX10_letter_X3_isLetter : GoodIn wsX10_letter (va_wsS RX10 108 yX3_isLetter wsX3_isLetter) := goodIn_app (goodIn_of _ (by decide +kernel)) ggX10_letter_X3_isLetter
set_option maxRecDepth 20000 in
theorem ggX10_letter_X4_isFull : GoodIn wsX10_letter wsX4_isFull := goodIn_r _ [17, 18, 19, 34, 35] (by decide +kernel) (by decide +kernel)
set_option maxRecDepth 20000 in
theorem gX10_letter_X4_isFull : GoodIn wsX10_letter (wsV RX10 111 RX4 yX4_isFull wsX4_isFull) := goodIn_app (goodIn_of _ (by decide +kernel)) ggX10_letter_X4_isFull
set_option maxRecDepth 20000 in
theorem ggX10_letter_X4_put : GoodIn wsX10_letter wsX4_put := goodIn_r _ [23, 18, 19, 34, 35] (by decide +kernel) (by decide +kernel)
set_option maxRecDepth 20000 in
theorem gX10_letter_X4_put : GoodIn wsX10_letter (wsV RX10 115 RX4 yX4_put wsX4_put) := goodIn_app (goodIn_of _ (by decide +kernel)) ggX10_letter_X4_put
theorem dX10_letter_0 : decode cX10_letter 0 = .ok (.iload_n 1, 1) := by decide +kernel
theorem dX10_letter_1 : decode cX10_letter 1 = .ok (.invokestatic 108, 3) := by decide +kernel
theorem dX10_letter_4 : decode cX10_letter 4 = .ok (.ifCond .ne 6, 3) := by decide +kernel
theorem dX10_letter_7 : decode cX10_letter 7 = .ok (.bipush (-3), 2) := by decide +kernel
theorem dX10_letter_9 : decode cX10_letter 9 = .ok (.ireturn, 1) := by decide +kernel
theorem dX10_letter_10 : decode cX10_letter 10 = .ok (.aload_n 0, 1) := by decide +kernel
theorem dX10_letter_11 : decode cX10_letter 11 = .ok (.getfield 30, 3) := by decide +kernel
theorem dX10_letter_14 : decode cX10_letter 14 = .ok (.invokevirtual 111, 3) := by decide +kernel
theorem dX10_letter_17 : decode cX10_letter 17 = .ok (.ifCond .eq 6, 3) := by decide +kernel
theorem dX10_letter_20 : decode cX10_letter 20 = .ok (.bipush (-5), 2) := by decide +kernel
theorem dX10_letter_22 : decode cX10_letter 22 = .ok (.ireturn, 1) := by decide +kernel
theorem dX10_letter_23 : decode cX10_letter 23 = .ok (.aload_n 0, 1) := by decide +kernel
theorem dX10_letter_24 : decode cX10_letter 24 = .ok (.getfield 30, 3) := by decide +kernel
theorem dX10_letter_27 : decode cX10_letter 27 = .ok (.iload_n 1, 1) := by decide +kernel
theorem dX10_letter_28 : decode cX10_letter 28 = .ok (.invokevirtual 115, 3) := by decide +kernel
theorem dX10_letter_31 : decode cX10_letter 31 = .ok (.aload_n 0, 1) := by decide +kernel
theorem dX10_letter_32 : decode cX10_letter 32 = .ok (.getfield 30, 3) := by decide +kernel
theorem dX10_letter_35 : decode cX10_letter 35 = .ok (.getfield 118, 3) := by decide +kernel
theorem dX10_letter_38 : decode cX10_letter 38 = .ok (.ireturn, 1) := by decide +kernel
set_option maxRecDepth 20000 in
theorem ggX10_word_X10_isLanguage : GoodIn wsX10_word wsX10_isLanguage := goodIn_r _ [8] (by decide +kernel) (by decide +kernel)
set_option maxRecDepth 20000 in
theorem gX10_word_X10_isLanguage : GoodIn wsX10_word (va_wsS RX10 121 yX10_isLanguage wsX10_isLanguage) := goodIn_app (goodIn_of _ (by decide +kernel)) ggX10_word_X10_isLanguage
set_option maxRecDepth 20000 in
theorem ggX10_word_X8_likeIn : GoodIn wsX10_word wsX8_likeIn := goodIn_r _ [13, 14, 15, 16, 17, 18, 19, 20, 12, 21, 22, 23, 24, 25, 26, 27, 28, 29, 30, 31, 32, 33, 34, 35, 36, 37, 38, 39, 40, 41, 42, 43, 44, 45, 106, 107, 108, 109, 110, 100, 101, 102, 103, 104, 105, 98, 99, 111, 112] (by decide +kernel) (by decide +kernel)
set_option maxRecDepth 20000 in
theorem gX10_word_X8_likeIn : GoodIn wsX10_word (wsV RX10 124 RX8 yX8_likeIn wsX8_likeIn) := goodIn_app (goodIn_of _ (by decide +kernel)) ggX10_word_X8_likeIn
set_option maxRecDepth 20000 in
theorem ggX10_word_X8_addWord : GoodIn wsX10_word wsX8_addWord := goodIn_r _ [49, 14, 22, 50, 51, 52, 53, 54, 55, 56, 57, 58, 59, 60, 37, 61, 62, 63, 64, 65, 66, 67, 68, 69, 70, 32, 71, 72, 40, 73, 74, 75, 76, 39, 77, 78, 79, 80, 81, 35, 36, 38, 82, 83, 84, 85, 106, 107, 108, 109, 110, 100, 101, 102, 103, 104, 105, 98, 99] (by decide +kernel) (by decide +kernel)
set_option maxRecDepth 20000 in
theorem gX10_word_X8_addWord : GoodIn wsX10_word (wsV RX10 128 RX8 yX8_addWord wsX8_addWord) := goodIn_app (goodIn_of _ (by decide +kernel)) ggX10_word_X8_addWord
set_option maxRecDepth 20000 in
theorem ggX10_word_X8_known : GoodIn wsX10_word wsX8_known := goodIn_r _ [21, 14, 22, 106, 107, 108, 109, 110] (by decide +kernel) (by decide +kernel)
set_option maxRecDepth 20000 in
theorem gX10_word_X8_known : GoodIn wsX10_word (wsV RX10 132 RX8 yX8_known wsX8_known) := goodIn_app (goodIn_of _ (by decide +kernel)) ggX10_word_X8_known
set_option maxRecDepth 20000 in
theorem ggX10_word_X4_clear : GoodIn wsX10_word wsX4_clear := goodIn_r _ [80, 39, 98, 99] (by decide +kernel) (by decide +kernel)
set_option maxRecDepth 20000 in
theorem gX10_word_X4_clear : GoodIn wsX10_word (wsV RX10 141 RX4 yX4_clear wsX4_clear) := goodIn_app (goodIn_of _ (by decide +kernel)) ggX10_word_X4_clear
theorem dX10_word_0 : decode cX10_word 0 = .ok (.iload_n 1, 1) := by decide +kernel
theorem dX10_word_1 : decode cX10_word 1 = .ok (.invokestatic 121, 3) := by decide +kernel
theorem dX10_word_4 : decode cX10_word 4 = .ok (.ifCond .eq 13, 3) := by decide +kernel
theorem dX10_word_7 : decode cX10_word 7 = .ok (.iload_n 2, 1) := by decide +kernel
theorem dX10_word_8 : decode cX10_word 8 = .ok (.ifCond .lt 9, 3) := by decide +kernel
theorem dX10_word_11 : decode cX10_word 11 = .ok (.iload_n 2, 1) := by decide +kernel
theorem dX10_word_12 : decode cX10_word 12 = .ok (.bipush 63, 2) := by decide +kernel
theorem dX10_word_14 : decode cX10_word 14 = .ok (.if_icmp .le 6, 3) := by decide +kernel
theorem dX10_word_17 : decode cX10_word 17 = .ok (.bipush (-3), 2) := by decide +kernel
theorem dX10_word_19 : decode cX10_word 19 = .ok (.ireturn, 1) := by decide +kernel
theorem dX10_word_20 : decode cX10_word 20 = .ok (.aload_n 0, 1) := by decide +kernel
theorem dX10_word_21 : decode cX10_word 21 = .ok (.getfield 30, 3) := by decide +kernel
theorem dX10_word_24 : decode cX10_word 24 = .ok (.getfield 118, 3) := by decide +kernel
theorem dX10_word_27 : decode cX10_word 27 = .ok (.ifCond .ne 6, 3) := by decide +kernel
theorem dX10_word_30 : decode cX10_word 30 = .ok (.bipush (-4), 2) := by decide +kernel
theorem dX10_word_32 : decode cX10_word 32 = .ok (.ireturn, 1) := by decide +kernel
theorem dX10_word_33 : decode cX10_word 33 = .ok (.aload_n 0, 1) := by decide +kernel
theorem dX10_word_34 : decode cX10_word 34 = .ok (.getfield 39, 3) := by decide +kernel
theorem dX10_word_37 : decode cX10_word 37 = .ok (.iload_n 1, 1) := by decide +kernel
theorem dX10_word_38 : decode cX10_word 38 = .ok (.aload_n 0, 1) := by decide +kernel
theorem dX10_word_39 : decode cX10_word 39 = .ok (.getfield 30, 3) := by decide +kernel
theorem dX10_word_42 : decode cX10_word 42 = .ok (.iconst 0, 1) := by decide +kernel
theorem dX10_word_43 : decode cX10_word 43 = .ok (.aload_n 0, 1) := by decide +kernel
theorem dX10_word_44 : decode cX10_word 44 = .ok (.getfield 30, 3) := by decide +kernel
theorem dX10_word_47 : decode cX10_word 47 = .ok (.getfield 118, 3) := by decide +kernel
theorem dX10_word_50 : decode cX10_word 50 = .ok (.invokevirtual 124, 3) := by decide +kernel
theorem dX10_word_53 : decode cX10_word 53 = .ok (.istore_n 3, 1) := by decide +kernel
theorem dX10_word_54 : decode cX10_word 54 = .ok (.iload_n 3, 1) := by decide +kernel
theorem dX10_word_55 : decode cX10_word 55 = .ok (.iconst (-1), 1) := by decide +kernel
theorem dX10_word_56 : decode cX10_word 56 = .ok (.if_icmp .ne 16, 3) := by decide +kernel
theorem dX10_word_59 : decode cX10_word 59 = .ok (.aload_n 0, 1) := by decide +kernel
theorem dX10_word_60 : decode cX10_word 60 = .ok (.getfield 39, 3) := by decide +kernel
theorem dX10_word_63 : decode cX10_word 63 = .ok (.aload_n 0, 1) := by decide +kernel
theorem dX10_word_64 : decode cX10_word 64 = .ok (.getfield 30, 3) := by decide +kernel
theorem dX10_word_67 : decode cX10_word 67 = .ok (.iload_n 1, 1) := by decide +kernel
theorem dX10_word_68 : decode cX10_word 68 = .ok (.invokevirtual 128, 3) := by decide +kernel
theorem dX10_word_71 : decode cX10_word 71 = .ok (.istore_n 3, 1) := by decide +kernel
theorem dX10_word_72 : decode cX10_word 72 = .ok (.aload_n 0, 1) := by decide +kernel
theorem dX10_word_73 : decode cX10_word 73 = .ok (.getfield 39, 3) := by decide +kernel
theorem dX10_word_76 : decode cX10_word 76 = .ok (.iload_n 3, 1) := by decide +kernel
theorem dX10_word_77 : decode cX10_word 77 = .ok (.invokevirtual 132, 3) := by decide +kernel
theorem dX10_word_80 : decode cX10_word 80 = .ok (.astore 4, 2) := by decide +kernel
theorem dX10_word_82 : decode cX10_word 82 = .ok (.aload 4, 2) := by decide +kernel
theorem dX10_word_84 : decode cX10_word 84 = .ok (.ifnonnull 6, 3) := by decide +kernel
theorem dX10_word_87 : decode cX10_word 87 = .ok (.bipush (-5), 2) := by decide +kernel
theorem dX10_word_89 : decode cX10_word 89 = .ok (.ireturn, 1) := by decide +kernel
theorem dX10_word_90 : decode cX10_word 90 = .ok (.aload 4, 2) := by decide +kernel
theorem dX10_word_92 : decode cX10_word 92 = .ok (.dup, 1) := by decide +kernel
theorem dX10_word_93 : decode cX10_word 93 = .ok (.getfield 136, 3) := by decide +kernel
theorem dX10_word_96 : decode cX10_word 96 = .ok (.iload_n 2, 1) := by decide +kernel
theorem dX10_word_97 : decode cX10_word 97 = .ok (.ior, 1) := by decide +kernel
theorem dX10_word_98 : decode cX10_word 98 = .ok (.putfield 136, 3) := by decide +kernel
theorem dX10_word_101 : decode cX10_word 101 = .ok (.aload_n 0, 1) := by decide +kernel
theorem dX10_word_102 : decode cX10_word 102 = .ok (.getfield 30, 3) := by decide +kernel
theorem dX10_word_105 : decode cX10_word 105 = .ok (.invokevirtual 141, 3) := by decide +kernel
theorem dX10_word_108 : decode cX10_word 108 = .ok (.iload_n 3, 1) := by decide +kernel
theorem dX10_word_109 : decode cX10_word 109 = .ok (.ireturn, 1) := by decide +kernel
set_option maxRecDepth 20000 in
theorem ggX10_value_X8_known : GoodIn wsX10_value wsX8_known := goodIn_r _ [7, 8, 9, 32, 33, 34, 35, 36] (by decide +kernel) (by decide +kernel)
set_option maxRecDepth 20000 in
theorem gX10_value_X8_known : GoodIn wsX10_value (wsV RX10 132 RX8 yX8_known wsX8_known) := goodIn_app (goodIn_of _ (by decide +kernel)) ggX10_value_X8_known
set_option maxRecDepth 20000 in
theorem ggX10_value_X9_isOneOf : GoodIn wsX10_value wsX9_isOneOf := goodIn_r _ [14, 15, 26, 27, 28, 29, 30, 31] (by decide +kernel) (by decide +kernel)
set_option maxRecDepth 20000 in
theorem gX10_value_X9_isOneOf : GoodIn wsX10_value (wsV RX10 144 RX9 yX9_isOneOf wsX9_isOneOf) := goodIn_app (goodIn_of _ (by decide +kernel)) ggX10_value_X9_isOneOf
theorem dX10_value_0 : decode cX10_value 0 = .ok (.aload_n 0, 1) := by decide +kernel
theorem dX10_value_1 : decode cX10_value 1 = .ok (.getfield 39, 3) := by decide +kernel
theorem dX10_value_4 : decode cX10_value 4 = .ok (.iload_n 1, 1) := by decide +kernel
theorem dX10_value_5 : decode cX10_value 5 = .ok (.invokevirtual 132, 3) := by decide +kernel
theorem dX10_value_8 : decode cX10_value 8 = .ok (.astore_n 3, 1) := by decide +kernel
theorem dX10_value_9 : decode cX10_value 9 = .ok (.aload_n 3, 1) := by decide +kernel
theorem dX10_value_10 : decode cX10_value 10 = .ok (.ifnonnull 6, 3) := by decide +kernel
theorem dX10_value_13 : decode cX10_value 13 = .ok (.bipush (-2), 2) := by decide +kernel
theorem dX10_value_15 : decode cX10_value 15 = .ok (.ireturn, 1) := by decide +kernel
theorem dX10_value_16 : decode cX10_value 16 = .ok (.iload_n 2, 1) := by decide +kernel
theorem dX10_value_17 : decode cX10_value 17 = .ok (.ifCond .lt 10, 3) := by decide +kernel
theorem dX10_value_20 : decode cX10_value 20 = .ok (.iload_n 2, 1) := by decide +kernel
theorem dX10_value_21 : decode cX10_value 21 = .ok (.sipush 1000, 3) := by decide +kernel
theorem dX10_value_24 : decode cX10_value 24 = .ok (.if_icmp .le 6, 3) := by decide +kernel
theorem dX10_value_27 : decode cX10_value 27 = .ok (.bipush (-3), 2) := by decide +kernel
theorem dX10_value_29 : decode cX10_value 29 = .ok (.ireturn, 1) := by decide +kernel
theorem dX10_value_30 : decode cX10_value 30 = .ok (.aload_n 3, 1) := by decide +kernel
theorem dX10_value_31 : decode cX10_value 31 = .ok (.bipush 32, 2) := by decide +kernel
theorem dX10_value_33 : decode cX10_value 33 = .ok (.invokevirtual 144, 3) := by decide +kernel
theorem dX10_value_36 : decode cX10_value 36 = .ok (.ifCond .ne 6, 3) := by decide +kernel
theorem dX10_value_39 : decode cX10_value 39 = .ok (.bipush (-4), 2) := by decide +kernel
theorem dX10_value_41 : decode cX10_value 41 = .ok (.ireturn, 1) := by decide +kernel
theorem dX10_value_42 : decode cX10_value 42 = .ok (.aload_n 3, 1) := by decide +kernel
theorem dX10_value_43 : decode cX10_value 43 = .ok (.getfield 147, 3) := by decide +kernel
theorem dX10_value_46 : decode cX10_value 46 = .ok (.istore 4, 2) := by decide +kernel
theorem dX10_value_48 : decode cX10_value 48 = .ok (.aload_n 3, 1) := by decide +kernel
theorem dX10_value_49 : decode cX10_value 49 = .ok (.iload_n 2, 1) := by decide +kernel
theorem dX10_value_50 : decode cX10_value 50 = .ok (.putfield 147, 3) := by decide +kernel
theorem dX10_value_53 : decode cX10_value 53 = .ok (.iload 4, 2) := by decide +kernel
theorem dX10_value_55 : decode cX10_value 55 = .ok (.ireturn, 1) := by decide +kernel
set_option maxRecDepth 20000 in
theorem ggX10_plural_X8_known : GoodIn wsX10_plural wsX8_known := goodIn_r _ [7, 8, 9, 26, 27, 28, 29, 30] (by decide +kernel) (by decide +kernel)
set_option maxRecDepth 20000 in
theorem gX10_plural_X8_known : GoodIn wsX10_plural (wsV RX10 132 RX8 yX8_known wsX8_known) := goodIn_app (goodIn_of _ (by decide +kernel)) ggX10_plural_X8_known
theorem dX10_plural_0 : decode cX10_plural 0 = .ok (.aload_n 0, 1) := by decide +kernel
theorem dX10_plural_1 : decode cX10_plural 1 = .ok (.getfield 39, 3) := by decide +kernel
theorem dX10_plural_4 : decode cX10_plural 4 = .ok (.iload_n 1, 1) := by decide +kernel
theorem dX10_plural_5 : decode cX10_plural 5 = .ok (.invokevirtual 132, 3) := by decide +kernel
theorem dX10_plural_8 : decode cX10_plural 8 = .ok (.astore_n 3, 1) := by decide +kernel
theorem dX10_plural_9 : decode cX10_plural 9 = .ok (.aload_n 3, 1) := by decide +kernel
theorem dX10_plural_10 : decode cX10_plural 10 = .ok (.ifnull 19, 3) := by decide +kernel
theorem dX10_plural_13 : decode cX10_plural 13 = .ok (.iload_n 2, 1) := by decide +kernel
theorem dX10_plural_14 : decode cX10_plural 14 = .ok (.iconst (-1), 1) := by decide +kernel
theorem dX10_plural_15 : decode cX10_plural 15 = .ok (.if_icmp .eq 17, 3) := by decide +kernel
theorem dX10_plural_18 : decode cX10_plural 18 = .ok (.aload_n 0, 1) := by decide +kernel
theorem dX10_plural_19 : decode cX10_plural 19 = .ok (.getfield 39, 3) := by decide +kernel
theorem dX10_plural_22 : decode cX10_plural 22 = .ok (.iload_n 2, 1) := by decide +kernel
theorem dX10_plural_23 : decode cX10_plural 23 = .ok (.invokevirtual 132, 3) := by decide +kernel
theorem dX10_plural_26 : decode cX10_plural 26 = .ok (.ifnonnull 6, 3) := by decide +kernel
theorem dX10_plural_29 : decode cX10_plural 29 = .ok (.bipush (-2), 2) := by decide +kernel
theorem dX10_plural_31 : decode cX10_plural 31 = .ok (.ireturn, 1) := by decide +kernel
theorem dX10_plural_32 : decode cX10_plural 32 = .ok (.iload_n 1, 1) := by decide +kernel
theorem dX10_plural_33 : decode cX10_plural 33 = .ok (.iload_n 2, 1) := by decide +kernel
theorem dX10_plural_34 : decode cX10_plural 34 = .ok (.if_icmp .ne 6, 3) := by decide +kernel
theorem dX10_plural_37 : decode cX10_plural 37 = .ok (.bipush (-4), 2) := by decide +kernel
theorem dX10_plural_39 : decode cX10_plural 39 = .ok (.ireturn, 1) := by decide +kernel
theorem dX10_plural_40 : decode cX10_plural 40 = .ok (.aload_n 3, 1) := by decide +kernel
theorem dX10_plural_41 : decode cX10_plural 41 = .ok (.getfield 150, 3) := by decide +kernel
theorem dX10_plural_44 : decode cX10_plural 44 = .ok (.istore 4, 2) := by decide +kernel
theorem dX10_plural_46 : decode cX10_plural 46 = .ok (.aload_n 3, 1) := by decide +kernel
theorem dX10_plural_47 : decode cX10_plural 47 = .ok (.iload_n 2, 1) := by decide +kernel
theorem dX10_plural_48 : decode cX10_plural 48 = .ok (.putfield 150, 3) := by decide +kernel
theorem dX10_plural_51 : decode cX10_plural 51 = .ok (.iload 4, 2) := by decide +kernel
theorem dX10_plural_53 : decode cX10_plural 53 = .ok (.ireturn, 1) := by decide +kernel
set_option maxRecDepth 20000 in
theorem ggX10_join_X8_known : GoodIn wsX10_join wsX8_known := goodIn_r _ [9, 10, 11, 74, 75, 76, 77, 78] (by decide +kernel) (by decide +kernel)
set_option maxRecDepth 20000 in
theorem gX10_join_X8_known : GoodIn wsX10_join (wsV RX10 132 RX8 yX8_known wsX8_known) := goodIn_app (goodIn_of _ (by decide +kernel)) ggX10_join_X8_known
set_option maxRecDepth 20000 in
theorem ggX10_join_X8_addJoin : GoodIn wsX10_join wsX8_addJoin := goodIn_r _ [15, 16, 17, 18, 19, 20, 21, 22, 23, 24, 25, 26, 27, 28, 29, 30, 31, 32, 33, 34, 35, 36, 37, 38, 39, 40, 41, 42, 43, 44, 45, 46, 47, 48, 49, 50, 51, 52, 53, 54, 55, 56, 57, 58, 59, 60, 74, 75, 76, 77, 78, 79, 80, 81, 72, 73] (by decide +kernel) (by decide +kernel)
set_option maxRecDepth 20000 in
theorem gX10_join_X8_addJoin : GoodIn wsX10_join (wsV RX10 153 RX8 yX8_addJoin wsX8_addJoin) := goodIn_app (goodIn_of _ (by decide +kernel)) ggX10_join_X8_addJoin
set_option maxRecDepth 20000 in
theorem ggX10_join_X4_clear : GoodIn wsX10_join wsX4_clear := goodIn_r _ [52, 48, 72, 73] (by decide +kernel) (by decide +kernel)
set_option maxRecDepth 20000 in
theorem gX10_join_X4_clear : GoodIn wsX10_join (wsV RX10 141 RX4 yX4_clear wsX4_clear) := goodIn_app (goodIn_of _ (by decide +kernel)) ggX10_join_X4_clear
theorem dX10_join_0 : decode cX10_join 0 = .ok (.aload_n 0, 1) := by decide +kernel
theorem dX10_join_1 : decode cX10_join 1 = .ok (.getfield 39, 3) := by decide +kernel
theorem dX10_join_4 : decode cX10_join 4 = .ok (.iload_n 1, 1) := by decide +kernel
theorem dX10_join_5 : decode cX10_join 5 = .ok (.invokevirtual 132, 3) := by decide +kernel
theorem dX10_join_8 : decode cX10_join 8 = .ok (.ifnull 14, 3) := by decide +kernel
theorem dX10_join_11 : decode cX10_join 11 = .ok (.aload_n 0, 1) := by decide +kernel
theorem dX10_join_12 : decode cX10_join 12 = .ok (.getfield 39, 3) := by decide +kernel
theorem dX10_join_15 : decode cX10_join 15 = .ok (.iload_n 2, 1) := by decide +kernel
theorem dX10_join_16 : decode cX10_join 16 = .ok (.invokevirtual 132, 3) := by decide +kernel
theorem dX10_join_19 : decode cX10_join 19 = .ok (.ifnonnull 6, 3) := by decide +kernel
theorem dX10_join_22 : decode cX10_join 22 = .ok (.bipush (-2), 2) := by decide +kernel
theorem dX10_join_24 : decode cX10_join 24 = .ok (.ireturn, 1) := by decide +kernel
theorem dX10_join_25 : decode cX10_join 25 = .ok (.aload_n 0, 1) := by decide +kernel
theorem dX10_join_26 : decode cX10_join 26 = .ok (.getfield 30, 3) := by decide +kernel
theorem dX10_join_29 : decode cX10_join 29 = .ok (.getfield 118, 3) := by decide +kernel
theorem dX10_join_32 : decode cX10_join 32 = .ok (.ifCond .ne 6, 3) := by decide +kernel
theorem dX10_join_35 : decode cX10_join 35 = .ok (.bipush (-4), 2) := by decide +kernel
theorem dX10_join_37 : decode cX10_join 37 = .ok (.ireturn, 1) := by decide +kernel
theorem dX10_join_38 : decode cX10_join 38 = .ok (.aload_n 0, 1) := by decide +kernel
theorem dX10_join_39 : decode cX10_join 39 = .ok (.getfield 39, 3) := by decide +kernel
theorem dX10_join_42 : decode cX10_join 42 = .ok (.aload_n 0, 1) := by decide +kernel
theorem dX10_join_43 : decode cX10_join 43 = .ok (.getfield 30, 3) := by decide +kernel
theorem dX10_join_46 : decode cX10_join 46 = .ok (.iload_n 1, 1) := by decide +kernel
theorem dX10_join_47 : decode cX10_join 47 = .ok (.iload_n 2, 1) := by decide +kernel
theorem dX10_join_48 : decode cX10_join 48 = .ok (.invokevirtual 153, 3) := by decide +kernel
theorem dX10_join_51 : decode cX10_join 51 = .ok (.ifCond .ne 6, 3) := by decide +kernel
theorem dX10_join_54 : decode cX10_join 54 = .ok (.bipush (-5), 2) := by decide +kernel
theorem dX10_join_56 : decode cX10_join 56 = .ok (.ireturn, 1) := by decide +kernel
theorem dX10_join_57 : decode cX10_join 57 = .ok (.aload_n 0, 1) := by decide +kernel
theorem dX10_join_58 : decode cX10_join 58 = .ok (.getfield 30, 3) := by decide +kernel
theorem dX10_join_61 : decode cX10_join 61 = .ok (.invokevirtual 141, 3) := by decide +kernel
theorem dX10_join_64 : decode cX10_join 64 = .ok (.aload_n 0, 1) := by decide +kernel
theorem dX10_join_65 : decode cX10_join 65 = .ok (.getfield 39, 3) := by decide +kernel
theorem dX10_join_68 : decode cX10_join 68 = .ok (.getfield 97, 3) := by decide +kernel
theorem dX10_join_71 : decode cX10_join 71 = .ok (.ireturn, 1) := by decide +kernel
set_option maxRecDepth 20000 in
theorem ggX10_type_X4_isFull : GoodIn wsX10_type wsX4_isFull := goodIn_r _ [7, 8, 9, 24, 25] (by decide +kernel) (by decide +kernel)
set_option maxRecDepth 20000 in
theorem gX10_type_X4_isFull : GoodIn wsX10_type (wsV RX10 111 RX4 yX4_isFull wsX4_isFull) := goodIn_app (goodIn_of _ (by decide +kernel)) ggX10_type_X4_isFull
set_option maxRecDepth 20000 in
theorem ggX10_type_X4_put : GoodIn wsX10_type wsX4_put := goodIn_r _ [13, 8, 9, 24, 25] (by decide +kernel) (by decide +kernel)
set_option maxRecDepth 20000 in
theorem gX10_type_X4_put : GoodIn wsX10_type (wsV RX10 115 RX4 yX4_put wsX4_put) := goodIn_app (goodIn_of _ (by decide +kernel)) ggX10_type_X4_put
theorem dX10_type_0 : decode cX10_type 0 = .ok (.iload_n 1, 1) := by decide +kernel
theorem dX10_type_1 : decode cX10_type 1 = .ok (.ifCond .lt 10, 3) := by decide +kernel
theorem dX10_type_4 : decode cX10_type 4 = .ok (.iload_n 1, 1) := by decide +kernel
theorem dX10_type_5 : decode cX10_type 5 = .ok (.sipush 255, 3) := by decide +kernel
theorem dX10_type_8 : decode cX10_type 8 = .ok (.if_icmp .le 6, 3) := by decide +kernel
theorem dX10_type_11 : decode cX10_type 11 = .ok (.bipush (-3), 2) := by decide +kernel
theorem dX10_type_13 : decode cX10_type 13 = .ok (.ireturn, 1) := by decide +kernel
theorem dX10_type_14 : decode cX10_type 14 = .ok (.aload_n 0, 1) := by decide +kernel
theorem dX10_type_15 : decode cX10_type 15 = .ok (.getfield 43, 3) := by decide +kernel
theorem dX10_type_18 : decode cX10_type 18 = .ok (.invokevirtual 111, 3) := by decide +kernel
theorem dX10_type_21 : decode cX10_type 21 = .ok (.ifCond .eq 6, 3) := by decide +kernel
theorem dX10_type_24 : decode cX10_type 24 = .ok (.bipush (-5), 2) := by decide +kernel
theorem dX10_type_26 : decode cX10_type 26 = .ok (.ireturn, 1) := by decide +kernel
theorem dX10_type_27 : decode cX10_type 27 = .ok (.aload_n 0, 1) := by decide +kernel
theorem dX10_type_28 : decode cX10_type 28 = .ok (.getfield 43, 3) := by decide +kernel
theorem dX10_type_31 : decode cX10_type 31 = .ok (.iload_n 1, 1) := by decide +kernel
theorem dX10_type_32 : decode cX10_type 32 = .ok (.invokevirtual 115, 3) := by decide +kernel
theorem dX10_type_35 : decode cX10_type 35 = .ok (.aload_n 0, 1) := by decide +kernel
theorem dX10_type_36 : decode cX10_type 36 = .ok (.getfield 43, 3) := by decide +kernel
theorem dX10_type_39 : decode cX10_type 39 = .ok (.getfield 118, 3) := by decide +kernel
theorem dX10_type_42 : decode cX10_type 42 = .ok (.ireturn, 1) := by decide +kernel
set_option maxRecDepth 20000 in
theorem ggX10_read_X10_isLanguage : GoodIn wsX10_read wsX10_isLanguage := goodIn_r _ [7] (by decide +kernel) (by decide +kernel)
set_option maxRecDepth 20000 in
theorem gX10_read_X10_isLanguage : GoodIn wsX10_read (va_wsS RX10 121 yX10_isLanguage wsX10_isLanguage) := goodIn_app (goodIn_of _ (by decide +kernel)) ggX10_read_X10_isLanguage
set_option maxRecDepth 20000 in
theorem ggX10_read_X1_cutLine : GoodIn wsX10_read wsX1_cutLine := goodIn_r _ [12, 13, 14, 15, 16, 17, 18, 19, 20, 21, 22, 23, 24, 25, 26, 27, 28, 29, 30, 31, 32, 33, 34, 35, 36, 37, 38, 39, 40, 41, 42, 43, 44, 45, 46, 47, 11, 48, 49, 50, 51, 52, 53, 54, 55, 56, 57, 58, 59, 60, 61, 62, 63, 64, 65, 66, 67, 68, 69, 70, 71, 72, 73, 74, 75, 76, 77, 78, 79, 80, 81, 82, 83, 84, 85, 86, 87, 88, 89, 90, 91, 92, 93, 94, 95, 96, 97, 98, 99, 100, 101, 102, 103, 104, 105, 106, 107, 108, 109, 110, 111, 112, 113, 114, 115, 116, 117, 118, 119, 120, 121, 122, 123, 124, 125, 126, 127, 128, 129, 130, 131, 132, 133, 134, 135, 136, 137, 138, 139, 140, 141, 142, 143, 144, 145, 146, 147, 148, 149, 150, 151, 152, 153, 154, 155, 156, 157, 158, 159, 177, 178, 179, 180, 181, 182, 183, 184, 185, 186, 187, 188, 189, 190, 191, 192, 193, 194, 195, 196, 197, 198, 199, 200, 201, 202, 203, 204, 205, 206] (by decide +kernel) (by decide +kernel)
set_option maxRecDepth 20000 in
theorem gX10_read_X1_cutLine : GoodIn wsX10_read (wsV RX10 157 RX1 yX1_cutLine wsX1_cutLine) := goodIn_app (goodIn_of _ (by decide +kernel)) ggX10_read_X1_cutLine
set_option maxRecDepth 20000 in
theorem ggX10_read_X10_takeSpareTokens : GoodIn wsX10_read wsX10_takeSpareTokens := goodIn_r _ [163, 164, 2, 165, 167, 168, 169, 170, 171, 172, 173, 174, 175, 176, 184, 185, 186, 187, 188, 189, 190] (by decide +kernel) (by decide +kernel)
set_option maxRecDepth 20000 in
theorem gX10_read_X10_takeSpareTokens : GoodIn wsX10_read (wsV RX10 161 RX10 yX10_takeSpareTokens wsX10_takeSpareTokens) := goodIn_app (goodIn_of _ (by decide +kernel)) ggX10_read_X10_takeSpareTokens
set_option maxRecDepth 20000 in
theorem ggX10_read_X4_clear : GoodIn wsX10_read wsX4_clear := goodIn_r _ [35, 31, 182, 183] (by decide +kernel) (by decide +kernel)
set_option maxRecDepth 20000 in
theorem gX10_read_X4_clear : GoodIn wsX10_read (wsV RX10 141 RX4 yX4_clear wsX4_clear) := goodIn_app (goodIn_of _ (by decide +kernel)) ggX10_read_X4_clear
theorem dX10_read_0 : decode cX10_read 0 = .ok (.bipush (-3), 2) := by decide +kernel
theorem dX10_read_2 : decode cX10_read 2 = .ok (.istore_n 2, 1) := by decide +kernel
theorem dX10_read_3 : decode cX10_read 3 = .ok (.iload_n 1, 1) := by decide +kernel
theorem dX10_read_4 : decode cX10_read 4 = .ok (.invokestatic 121, 3) := by decide +kernel
theorem dX10_read_7 : decode cX10_read 7 = .ok (.ifCond .eq 28, 3) := by decide +kernel
theorem dX10_read_10 : decode cX10_read 10 = .ok (.aload_n 0, 1) := by decide +kernel
theorem dX10_read_11 : decode cX10_read 11 = .ok (.getfield 51, 3) := by decide +kernel
theorem dX10_read_14 : decode cX10_read 14 = .ok (.iload_n 1, 1) := by decide +kernel
theorem dX10_read_15 : decode cX10_read 15 = .ok (.aload_n 0, 1) := by decide +kernel
theorem dX10_read_16 : decode cX10_read 16 = .ok (.getfield 83, 3) := by decide +kernel
theorem dX10_read_19 : decode cX10_read 19 = .ok (.invokevirtual 157, 3) := by decide +kernel
theorem dX10_read_22 : decode cX10_read 22 = .ok (.ifCond .eq 10, 3) := by decide +kernel
theorem dX10_read_25 : decode cX10_read 25 = .ok (.aload_n 0, 1) := by decide +kernel
theorem dX10_read_26 : decode cX10_read 26 = .ok (.invokevirtual 161, 3) := by decide +kernel
theorem dX10_read_29 : decode cX10_read 29 = .ok (.goto 5, 3) := by decide +kernel
end
section
theorem dX10_read_32 : decode cX10_read 32 = .ok (.bipush (-5), 2) := by decide +kernel
theorem dX10_read_34 : decode cX10_read 34 = .ok (.istore_n 2, 1) := by decide +kernel
theorem dX10_read_35 : decode cX10_read 35 = .ok (.aload_n 0, 1) := by decide +kernel
theorem dX10_read_36 : decode cX10_read 36 = .ok (.getfield 43, 3) := by decide +kernel
theorem dX10_read_39 : decode cX10_read 39 = .ok (.invokevirtual 141, 3) := by decide +kernel
theorem dX10_read_42 : decode cX10_read 42 = .ok (.iload_n 2, 1) := by decide +kernel
theorem dX10_read_43 : decode cX10_read 43 = .ok (.ireturn, 1) := by decide +kernel
set_option maxRecDepth 20000 in
theorem ggX10_token_X7_has : GoodIn wsX10_token wsX7_has := goodIn_r _ [10, 11, 39, 40, 41, 42, 43, 44, 45] (by decide +kernel) (by decide +kernel)
set_option maxRecDepth 20000 in
theorem gX10_token_X7_has : GoodIn wsX10_token (wsV RX10 165 RX7 yX7_has wsX7_has) := goodIn_app (goodIn_of _ (by decide +kernel)) ggX10_token_X7_has
set_option maxRecDepth 20000 in
theorem ggX10_token_X10_wordOf : GoodIn wsX10_token wsX10_wordOf := goodIn_r _ [16, 1, 2, 17, 5, 6, 7, 8, 9, 10, 11, 18, 19, 20, 21, 22, 23, 24, 29, 30, 31, 32, 33, 34, 35, 36, 37, 38, 39, 40, 41, 42, 43, 44, 45, 46, 47, 48, 49, 50] (by decide +kernel) (by decide +kernel)
set_option maxRecDepth 20000 in
theorem gX10_token_X10_wordOf : GoodIn wsX10_token (wsV RX10 181 RX10 yX10_wordOf wsX10_wordOf) := goodIn_app (goodIn_of _ (by decide +kernel)) ggX10_token_X10_wordOf
set_option maxRecDepth 20000 in
theorem ggX10_token_X10_kindsOf : GoodIn wsX10_token wsX10_kindsOf := goodIn_r _ [27, 28, 51, 52, 53, 54, 55, 56] (by decide +kernel) (by decide +kernel)
set_option maxRecDepth 20000 in
theorem gX10_token_X10_kindsOf : GoodIn wsX10_token (va_wsS RX10 184 yX10_kindsOf wsX10_kindsOf) := goodIn_app (goodIn_of _ (by decide +kernel)) ggX10_token_X10_kindsOf
theorem dX10_token_0 : decode cX10_token 0 = .ok (.aload_n 0, 1) := by decide +kernel
theorem dX10_token_1 : decode cX10_token 1 = .ok (.getfield 79, 3) := by decide +kernel
theorem dX10_token_4 : decode cX10_token 4 = .ok (.iload_n 1, 1) := by decide +kernel
theorem dX10_token_5 : decode cX10_token 5 = .ok (.invokevirtual 165, 3) := by decide +kernel
theorem dX10_token_8 : decode cX10_token 8 = .ok (.ifCond .ne 6, 3) := by decide +kernel
theorem dX10_token_11 : decode cX10_token 11 = .ok (.bipush (-2), 2) := by decide +kernel
theorem dX10_token_13 : decode cX10_token 13 = .ok (.ireturn, 1) := by decide +kernel
theorem dX10_token_14 : decode cX10_token 14 = .ok (.iload_n 2, 1) := by decide +kernel
theorem dX10_token_15 : decode cX10_token 15 = .ok (.tableswitch 82 0 4 #[33, 43, 53, 63, 73], 33) := by decide +kernel
theorem dX10_token_48 : decode cX10_token 48 = .ok (.aload_n 0, 1) := by decide +kernel
theorem dX10_token_49 : decode cX10_token 49 = .ok (.getfield 79, 3) := by decide +kernel
theorem dX10_token_52 : decode cX10_token 52 = .ok (.getfield 168, 3) := by decide +kernel
theorem dX10_token_55 : decode cX10_token 55 = .ok (.iload_n 1, 1) := by decide +kernel
theorem dX10_token_56 : decode cX10_token 56 = .ok (.iaload, 1) := by decide +kernel
theorem dX10_token_57 : decode cX10_token 57 = .ok (.ireturn, 1) := by decide +kernel
theorem dX10_token_58 : decode cX10_token 58 = .ok (.aload_n 0, 1) := by decide +kernel
theorem dX10_token_59 : decode cX10_token 59 = .ok (.getfield 79, 3) := by decide +kernel
theorem dX10_token_62 : decode cX10_token 62 = .ok (.getfield 172, 3) := by decide +kernel
theorem dX10_token_65 : decode cX10_token 65 = .ok (.iload_n 1, 1) := by decide +kernel
theorem dX10_token_66 : decode cX10_token 66 = .ok (.iaload, 1) := by decide +kernel
theorem dX10_token_67 : decode cX10_token 67 = .ok (.ireturn, 1) := by decide +kernel
theorem dX10_token_68 : decode cX10_token 68 = .ok (.aload_n 0, 1) := by decide +kernel
theorem dX10_token_69 : decode cX10_token 69 = .ok (.getfield 79, 3) := by decide +kernel
theorem dX10_token_72 : decode cX10_token 72 = .ok (.getfield 175, 3) := by decide +kernel
theorem dX10_token_75 : decode cX10_token 75 = .ok (.iload_n 1, 1) := by decide +kernel
theorem dX10_token_76 : decode cX10_token 76 = .ok (.iaload, 1) := by decide +kernel
theorem dX10_token_77 : decode cX10_token 77 = .ok (.ireturn, 1) := by decide +kernel
theorem dX10_token_78 : decode cX10_token 78 = .ok (.aload_n 0, 1) := by decide +kernel
theorem dX10_token_79 : decode cX10_token 79 = .ok (.getfield 79, 3) := by decide +kernel
theorem dX10_token_82 : decode cX10_token 82 = .ok (.getfield 178, 3) := by decide +kernel
theorem dX10_token_85 : decode cX10_token 85 = .ok (.iload_n 1, 1) := by decide +kernel
theorem dX10_token_86 : decode cX10_token 86 = .ok (.iaload, 1) := by decide +kernel
theorem dX10_token_87 : decode cX10_token 87 = .ok (.ireturn, 1) := by decide +kernel
theorem dX10_token_88 : decode cX10_token 88 = .ok (.aload_n 0, 1) := by decide +kernel
theorem dX10_token_89 : decode cX10_token 89 = .ok (.iload_n 1, 1) := by decide +kernel
theorem dX10_token_90 : decode cX10_token 90 = .ok (.invokevirtual 181, 3) := by decide +kernel
theorem dX10_token_93 : decode cX10_token 93 = .ok (.invokestatic 184, 3) := by decide +kernel
theorem dX10_token_96 : decode cX10_token 96 = .ok (.ireturn, 1) := by decide +kernel
theorem dX10_token_97 : decode cX10_token 97 = .ok (.bipush (-2), 2) := by decide +kernel
theorem dX10_token_99 : decode cX10_token 99 = .ok (.ireturn, 1) := by decide +kernel
set_option maxRecDepth 20000 in
theorem ggX10_at_X7_has : GoodIn wsX10_at wsX7_has := goodIn_r _ [9, 10, 28, 29, 30, 31, 32, 33, 34] (by decide +kernel) (by decide +kernel)
set_option maxRecDepth 20000 in
theorem gX10_at_X7_has : GoodIn wsX10_at (wsV RX10 165 RX7 yX7_has wsX7_has) := goodIn_app (goodIn_of _ (by decide +kernel)) ggX10_at_X7_has
set_option maxRecDepth 20000 in
theorem ggX10_at_X4_byteAt : GoodIn wsX10_at wsX4_byteAt := goodIn_r _ [15, 16, 17, 35, 36] (by decide +kernel) (by decide +kernel)
set_option maxRecDepth 20000 in
theorem gX10_at_X4_byteAt : GoodIn wsX10_at (wsV RX10 191 RX4 yX4_byteAt wsX4_byteAt) := goodIn_app (goodIn_of _ (by decide +kernel)) ggX10_at_X4_byteAt
theorem dX10_at_0 : decode cX10_at 0 = .ok (.aload_n 0, 1) := by decide +kernel
theorem dX10_at_1 : decode cX10_at 1 = .ok (.getfield 79, 3) := by decide +kernel
theorem dX10_at_4 : decode cX10_at 4 = .ok (.iload_n 1, 1) := by decide +kernel
theorem dX10_at_5 : decode cX10_at 5 = .ok (.invokevirtual 165, 3) := by decide +kernel
theorem dX10_at_8 : decode cX10_at 8 = .ok (.ifCond .eq 20, 3) := by decide +kernel
theorem dX10_at_11 : decode cX10_at 11 = .ok (.iload_n 2, 1) := by decide +kernel
theorem dX10_at_12 : decode cX10_at 12 = .ok (.ifCond .lt 16, 3) := by decide +kernel
theorem dX10_at_15 : decode cX10_at 15 = .ok (.iload_n 2, 1) := by decide +kernel
theorem dX10_at_16 : decode cX10_at 16 = .ok (.aload_n 0, 1) := by decide +kernel
theorem dX10_at_17 : decode cX10_at 17 = .ok (.getfield 79, 3) := by decide +kernel
theorem dX10_at_20 : decode cX10_at 20 = .ok (.getfield 175, 3) := by decide +kernel
theorem dX10_at_23 : decode cX10_at 23 = .ok (.iload_n 1, 1) := by decide +kernel
theorem dX10_at_24 : decode cX10_at 24 = .ok (.iaload, 1) := by decide +kernel
theorem dX10_at_25 : decode cX10_at 25 = .ok (.if_icmp .lt 6, 3) := by decide +kernel
theorem dX10_at_28 : decode cX10_at 28 = .ok (.bipush (-2), 2) := by decide +kernel
theorem dX10_at_30 : decode cX10_at 30 = .ok (.ireturn, 1) := by decide +kernel
theorem dX10_at_31 : decode cX10_at 31 = .ok (.aload_n 0, 1) := by decide +kernel
theorem dX10_at_32 : decode cX10_at 32 = .ok (.getfield 79, 3) := by decide +kernel
theorem dX10_at_35 : decode cX10_at 35 = .ok (.getfield 188, 3) := by decide +kernel
theorem dX10_at_38 : decode cX10_at 38 = .ok (.aload_n 0, 1) := by decide +kernel
theorem dX10_at_39 : decode cX10_at 39 = .ok (.getfield 79, 3) := by decide +kernel
theorem dX10_at_42 : decode cX10_at 42 = .ok (.getfield 172, 3) := by decide +kernel
theorem dX10_at_45 : decode cX10_at 45 = .ok (.iload_n 1, 1) := by decide +kernel
theorem dX10_at_46 : decode cX10_at 46 = .ok (.iaload, 1) := by decide +kernel
theorem dX10_at_47 : decode cX10_at 47 = .ok (.iload_n 2, 1) := by decide +kernel
theorem dX10_at_48 : decode cX10_at 48 = .ok (.iadd, 1) := by decide +kernel
theorem dX10_at_49 : decode cX10_at 49 = .ok (.invokevirtual 191, 3) := by decide +kernel
theorem dX10_at_52 : decode cX10_at 52 = .ok (.ireturn, 1) := by decide +kernel
set_option maxRecDepth 20000 in
theorem ggX10_amount_X7_has : GoodIn wsX10_amount wsX7_has := goodIn_r _ [10, 11, 77, 78, 79, 80, 81, 82, 83] (by decide +kernel) (by decide +kernel)
set_option maxRecDepth 20000 in
theorem gX10_amount_X7_has : GoodIn wsX10_amount (wsV RX10 165 RX7 yX7_has wsX7_has) := goodIn_app (goodIn_of _ (by decide +kernel)) ggX10_amount_X7_has
set_option maxRecDepth 20000 in
theorem ggX10_amount_X10_sumUpFrom : GoodIn wsX10_amount wsX10_sumUpFrom := goodIn_r _ [16, 2, 1, 17, 18, 19, 20, 21, 22, 23, 24, 25, 26, 27, 28, 6, 7, 8, 9, 10, 11, 29, 30, 31, 32, 33, 34, 35, 15, 36, 37, 38, 39, 40, 41, 42, 43, 44, 45, 46, 47, 48, 49, 50, 51, 52, 53, 54, 55, 56, 57, 58, 59, 60, 61, 62, 63, 64, 65, 66, 67, 68, 69, 70, 71, 72, 73, 77, 78, 79, 80, 81, 82, 83, 84, 85, 86, 87, 88, 89, 74, 75, 76, 90, 91, 92, 93, 94] (by decide +kernel) (by decide +kernel)
set_option maxRecDepth 20000 in
theorem gX10_amount_X10_sumUpFrom : GoodIn wsX10_amount (wsV RX10 194 RX10 yX10_sumUpFrom wsX10_sumUpFrom) := goodIn_app (goodIn_of _ (by decide +kernel)) ggX10_amount_X10_sumUpFrom
theorem dX10_amount_0 : decode cX10_amount 0 = .ok (.aload_n 0, 1) := by decide +kernel
theorem dX10_amount_1 : decode cX10_amount 1 = .ok (.getfield 79, 3) := by decide +kernel
theorem dX10_amount_4 : decode cX10_amount 4 = .ok (.iload_n 1, 1) := by decide +kernel
theorem dX10_amount_5 : decode cX10_amount 5 = .ok (.invokevirtual 165, 3) := by decide +kernel
theorem dX10_amount_8 : decode cX10_amount 8 = .ok (.ifCond .ne 6, 3) := by decide +kernel
theorem dX10_amount_11 : decode cX10_amount 11 = .ok (.bipush (-2), 2) := by decide +kernel
theorem dX10_amount_13 : decode cX10_amount 13 = .ok (.ireturn, 1) := by decide +kernel
theorem dX10_amount_14 : decode cX10_amount 14 = .ok (.aload_n 0, 1) := by decide +kernel
theorem dX10_amount_15 : decode cX10_amount 15 = .ok (.iload_n 1, 1) := by decide +kernel
theorem dX10_amount_16 : decode cX10_amount 16 = .ok (.invokevirtual 194, 3) := by decide +kernel
theorem dX10_amount_19 : decode cX10_amount 19 = .ok (.aload_n 0, 1) := by decide +kernel
theorem dX10_amount_20 : decode cX10_amount 20 = .ok (.getfield 65, 3) := by decide +kernel
theorem dX10_amount_23 : decode cX10_amount 23 = .ok (.getfield 197, 3) := by decide +kernel
theorem dX10_amount_26 : decode cX10_amount 26 = .ok (.ifCond .ne 8, 3) := by decide +kernel
theorem dX10_amount_29 : decode cX10_amount 29 = .ok (.bipush (-4), 2) := by decide +kernel
theorem dX10_amount_31 : decode cX10_amount 31 = .ok (.goto 18, 3) := by decide +kernel
theorem dX10_amount_34 : decode cX10_amount 34 = .ok (.aload_n 0, 1) := by decide +kernel
theorem dX10_amount_35 : decode cX10_amount 35 = .ok (.getfield 65, 3) := by decide +kernel
theorem dX10_amount_38 : decode cX10_amount 38 = .ok (.getfield 200, 3) := by decide +kernel
theorem dX10_amount_41 : decode cX10_amount 41 = .ok (.aload_n 0, 1) := by decide +kernel
theorem dX10_amount_42 : decode cX10_amount 42 = .ok (.getfield 65, 3) := by decide +kernel
theorem dX10_amount_45 : decode cX10_amount 45 = .ok (.getfield 203, 3) := by decide +kernel
theorem dX10_amount_48 : decode cX10_amount 48 = .ok (.iadd, 1) := by decide +kernel
theorem dX10_amount_49 : decode cX10_amount 49 = .ok (.ireturn, 1) := by decide +kernel
set_option maxRecDepth 20000 in
theorem ggX10_amountLength_X7_has : GoodIn wsX10_amountLength wsX7_has := goodIn_r _ [8, 9, 75, 76, 77, 78, 79, 80, 81] (by decide +kernel) (by decide +kernel)
set_option maxRecDepth 20000 in
theorem gX10_amountLength_X7_has : GoodIn wsX10_amountLength (wsV RX10 165 RX7 yX7_has wsX7_has) := goodIn_app (goodIn_of _ (by decide +kernel)) ggX10_amountLength_X7_has
set_option maxRecDepth 20000 in
theorem ggX10_amountLength_X10_sumUpFrom : GoodIn wsX10_amountLength wsX10_sumUpFrom := goodIn_r _ [14, 2, 1, 15, 16, 17, 18, 19, 20, 21, 22, 23, 24, 25, 26, 4, 5, 6, 7, 8, 9, 27, 28, 29, 30, 31, 32, 33, 13, 34, 35, 36, 37, 38, 39, 40, 41, 42, 43, 44, 45, 46, 47, 48, 49, 50, 51, 52, 53, 54, 55, 56, 57, 58, 59, 60, 61, 62, 63, 64, 65, 66, 67, 68, 69, 70, 71, 75, 76, 77, 78, 79, 80, 81, 82, 83, 84, 85, 86, 87, 72, 73, 74, 88, 89, 90, 91, 92] (by decide +kernel) (by decide +kernel)
set_option maxRecDepth 20000 in
theorem gX10_amountLength_X10_sumUpFrom : GoodIn wsX10_amountLength (wsV RX10 194 RX10 yX10_sumUpFrom wsX10_sumUpFrom) := goodIn_app (goodIn_of _ (by decide +kernel)) ggX10_amountLength_X10_sumUpFrom
theorem dX10_amountLength_0 : decode cX10_amountLength 0 = .ok (.aload_n 0, 1) := by decide +kernel
theorem dX10_amountLength_1 : decode cX10_amountLength 1 = .ok (.getfield 79, 3) := by decide +kernel
theorem dX10_amountLength_4 : decode cX10_amountLength 4 = .ok (.iload_n 1, 1) := by decide +kernel
theorem dX10_amountLength_5 : decode cX10_amountLength 5 = .ok (.invokevirtual 165, 3) := by decide +kernel
theorem dX10_amountLength_8 : decode cX10_amountLength 8 = .ok (.ifCond .ne 6, 3) := by decide +kernel
theorem dX10_amountLength_11 : decode cX10_amountLength 11 = .ok (.bipush (-2), 2) := by decide +kernel
theorem dX10_amountLength_13 : decode cX10_amountLength 13 = .ok (.ireturn, 1) := by decide +kernel
theorem dX10_amountLength_14 : decode cX10_amountLength 14 = .ok (.aload_n 0, 1) := by decide +kernel
theorem dX10_amountLength_15 : decode cX10_amountLength 15 = .ok (.iload_n 1, 1) := by decide +kernel
theorem dX10_amountLength_16 : decode cX10_amountLength 16 = .ok (.invokevirtual 194, 3) := by decide +kernel
theorem dX10_amountLength_19 : decode cX10_amountLength 19 = .ok (.aload_n 0, 1) := by decide +kernel
theorem dX10_amountLength_20 : decode cX10_amountLength 20 = .ok (.getfield 65, 3) := by decide +kernel
theorem dX10_amountLength_23 : decode cX10_amountLength 23 = .ok (.getfield 197, 3) := by decide +kernel
theorem dX10_amountLength_26 : decode cX10_amountLength 26 = .ok (.ireturn, 1) := by decide +kernel
set_option maxRecDepth 20000 in
theorem ggX10_thing_X6_addThing : GoodIn wsX10_thing wsX6_addThing := goodIn_r _ [7, 8, 19, 20, 21, 22, 23, 24] (by decide +kernel) (by decide +kernel)
set_option maxRecDepth 20000 in
theorem gX10_thing_X6_addThing : GoodIn wsX10_thing (wsV RX10 206 RX6 yX6_addThing wsX6_addThing) := goodIn_app (goodIn_of _ (by decide +kernel)) ggX10_thing_X6_addThing
theorem dX10_thing_0 : decode cX10_thing 0 = .ok (.aload_n 0, 1) := by decide +kernel
theorem dX10_thing_1 : decode cX10_thing 1 = .ok (.getfield 58, 3) := by decide +kernel
theorem dX10_thing_4 : decode cX10_thing 4 = .ok (.invokevirtual 206, 3) := by decide +kernel
theorem dX10_thing_7 : decode cX10_thing 7 = .ok (.ifCond .eq 15, 3) := by decide +kernel
theorem dX10_thing_10 : decode cX10_thing 10 = .ok (.aload_n 0, 1) := by decide +kernel
theorem dX10_thing_11 : decode cX10_thing 11 = .ok (.getfield 58, 3) := by decide +kernel
theorem dX10_thing_14 : decode cX10_thing 14 = .ok (.getfield 209, 3) := by decide +kernel
theorem dX10_thing_17 : decode cX10_thing 17 = .ok (.iconst 1, 1) := by decide +kernel
theorem dX10_thing_18 : decode cX10_thing 18 = .ok (.isub, 1) := by decide +kernel
theorem dX10_thing_19 : decode cX10_thing 19 = .ok (.goto 5, 3) := by decide +kernel
theorem dX10_thing_22 : decode cX10_thing 22 = .ok (.bipush (-5), 2) := by decide +kernel
theorem dX10_thing_24 : decode cX10_thing 24 = .ok (.ireturn, 1) := by decide +kernel
set_option maxRecDepth 20000 in
theorem ggX10_means_X6_has : GoodIn wsX10_means wsX6_has := goodIn_r _ [8, 9, 39, 40, 41, 42, 43, 44] (by decide +kernel) (by decide +kernel)
set_option maxRecDepth 20000 in
theorem gX10_means_X6_has : GoodIn wsX10_means (wsV RX10 210 RX6 yX6_has wsX6_has) := goodIn_app (goodIn_of _ (by decide +kernel)) ggX10_means_X6_has
set_option maxRecDepth 20000 in
theorem ggX10_means_X8_known : GoodIn wsX10_means wsX8_known := goodIn_r _ [14, 15, 16, 45, 46, 47, 48, 49] (by decide +kernel) (by decide +kernel)
set_option maxRecDepth 20000 in
theorem gX10_means_X8_known : GoodIn wsX10_means (wsV RX10 132 RX8 yX8_known wsX8_known) := goodIn_app (goodIn_of _ (by decide +kernel)) ggX10_means_X8_known
set_option maxRecDepth 20000 in
theorem ggX10_means_X10_isFlag : GoodIn wsX10_means wsX10_isFlag := goodIn_r _ [20] (by decide +kernel) (by decide +kernel)
set_option maxRecDepth 20000 in
theorem gX10_means_X10_isFlag : GoodIn wsX10_means (va_wsS RX10 211 yX10_isFlag wsX10_isFlag) := goodIn_app (goodIn_of _ (by decide +kernel)) ggX10_means_X10_isFlag
set_option maxRecDepth 20000 in
theorem ggX10_means_X6_addMeaning : GoodIn wsX10_means wsX6_addMeaning := goodIn_r _ [24, 25, 26, 27, 28, 39, 40, 41, 42, 43, 44] (by decide +kernel) (by decide +kernel)
set_option maxRecDepth 20000 in
theorem gX10_means_X6_addMeaning : GoodIn wsX10_means (wsV RX10 214 RX6 yX6_addMeaning wsX6_addMeaning) := goodIn_app (goodIn_of _ (by decide +kernel)) ggX10_means_X6_addMeaning
theorem dX10_means_0 : decode cX10_means 0 = .ok (.aload_n 0, 1) := by decide +kernel
theorem dX10_means_1 : decode cX10_means 1 = .ok (.getfield 58, 3) := by decide +kernel
theorem dX10_means_4 : decode cX10_means 4 = .ok (.iload_n 1, 1) := by decide +kernel
theorem dX10_means_5 : decode cX10_means 5 = .ok (.invokevirtual 210, 3) := by decide +kernel
theorem dX10_means_8 : decode cX10_means 8 = .ok (.ifCond .eq 14, 3) := by decide +kernel
theorem dX10_means_11 : decode cX10_means 11 = .ok (.aload_n 0, 1) := by decide +kernel
theorem dX10_means_12 : decode cX10_means 12 = .ok (.getfield 39, 3) := by decide +kernel
theorem dX10_means_15 : decode cX10_means 15 = .ok (.iload_n 2, 1) := by decide +kernel
theorem dX10_means_16 : decode cX10_means 16 = .ok (.invokevirtual 132, 3) := by decide +kernel
theorem dX10_means_19 : decode cX10_means 19 = .ok (.ifnonnull 6, 3) := by decide +kernel
theorem dX10_means_22 : decode cX10_means 22 = .ok (.bipush (-2), 2) := by decide +kernel
theorem dX10_means_24 : decode cX10_means 24 = .ok (.ireturn, 1) := by decide +kernel
theorem dX10_means_25 : decode cX10_means 25 = .ok (.iload_n 3, 1) := by decide +kernel
theorem dX10_means_26 : decode cX10_means 26 = .ok (.iconst (-1), 1) := by decide +kernel
theorem dX10_means_27 : decode cX10_means 27 = .ok (.if_icmp .eq 13, 3) := by decide +kernel
theorem dX10_means_30 : decode cX10_means 30 = .ok (.iload_n 3, 1) := by decide +kernel
theorem dX10_means_31 : decode cX10_means 31 = .ok (.invokestatic 211, 3) := by decide +kernel
theorem dX10_means_34 : decode cX10_means 34 = .ok (.ifCond .ne 6, 3) := by decide +kernel
theorem dX10_means_37 : decode cX10_means 37 = .ok (.bipush (-3), 2) := by decide +kernel
theorem dX10_means_39 : decode cX10_means 39 = .ok (.ireturn, 1) := by decide +kernel
theorem dX10_means_40 : decode cX10_means 40 = .ok (.aload_n 0, 1) := by decide +kernel
theorem dX10_means_41 : decode cX10_means 41 = .ok (.getfield 58, 3) := by decide +kernel
theorem dX10_means_44 : decode cX10_means 44 = .ok (.iload_n 1, 1) := by decide +kernel
theorem dX10_means_45 : decode cX10_means 45 = .ok (.iload_n 2, 1) := by decide +kernel
theorem dX10_means_46 : decode cX10_means 46 = .ok (.iload_n 3, 1) := by decide +kernel
theorem dX10_means_47 : decode cX10_means 47 = .ok (.invokevirtual 214, 3) := by decide +kernel
theorem dX10_means_50 : decode cX10_means 50 = .ok (.ifCond .eq 13, 3) := by decide +kernel
theorem dX10_means_53 : decode cX10_means 53 = .ok (.aload_n 0, 1) := by decide +kernel
theorem dX10_means_54 : decode cX10_means 54 = .ok (.getfield 58, 3) := by decide +kernel
theorem dX10_means_57 : decode cX10_means 57 = .ok (.getfield 218, 3) := by decide +kernel
theorem dX10_means_60 : decode cX10_means 60 = .ok (.goto 5, 3) := by decide +kernel
theorem dX10_means_63 : decode cX10_means 63 = .ok (.bipush (-5), 2) := by decide +kernel
theorem dX10_means_65 : decode cX10_means 65 = .ok (.ireturn, 1) := by decide +kernel
set_option maxRecDepth 20000 in
theorem ggX10_flag_X10_isFlag : GoodIn wsX10_flag wsX10_isFlag := goodIn_r _ [5] (by decide +kernel) (by decide +kernel)
set_option maxRecDepth 20000 in
theorem gX10_flag_X10_isFlag : GoodIn wsX10_flag (va_wsS RX10 211 yX10_isFlag wsX10_isFlag) := goodIn_app (goodIn_of _ (by decide +kernel)) ggX10_flag_X10_isFlag
set_option maxRecDepth 20000 in
theorem ggX10_flag_X6_isUp : GoodIn wsX10_flag wsX6_isUp := goodIn_r _ [10, 11, 26, 27, 28, 29, 30, 31] (by decide +kernel) (by decide +kernel)
set_option maxRecDepth 20000 in
theorem gX10_flag_X6_isUp : GoodIn wsX10_flag (wsV RX10 221 RX6 yX6_isUp wsX6_isUp) := goodIn_app (goodIn_of _ (by decide +kernel)) ggX10_flag_X6_isUp
set_option maxRecDepth 20000 in
theorem ggX10_flag_X6_setFlag : GoodIn wsX10_flag wsX6_setFlag := goodIn_r _ [15, 11, 26, 27, 28, 29, 30, 31] (by decide +kernel) (by decide +kernel)
set_option maxRecDepth 20000 in
theorem gX10_flag_X6_setFlag : GoodIn wsX10_flag (wsV RX10 224 RX6 yX6_setFlag wsX6_setFlag) := goodIn_app (goodIn_of _ (by decide +kernel)) ggX10_flag_X6_setFlag
theorem dX10_flag_0 : decode cX10_flag 0 = .ok (.iload_n 1, 1) := by decide +kernel
theorem dX10_flag_1 : decode cX10_flag 1 = .ok (.invokestatic 211, 3) := by decide +kernel
theorem dX10_flag_4 : decode cX10_flag 4 = .ok (.ifCond .ne 6, 3) := by decide +kernel
theorem dX10_flag_7 : decode cX10_flag 7 = .ok (.bipush (-3), 2) := by decide +kernel
theorem dX10_flag_9 : decode cX10_flag 9 = .ok (.ireturn, 1) := by decide +kernel
theorem dX10_flag_10 : decode cX10_flag 10 = .ok (.aload_n 0, 1) := by decide +kernel
theorem dX10_flag_11 : decode cX10_flag 11 = .ok (.getfield 58, 3) := by decide +kernel
theorem dX10_flag_14 : decode cX10_flag 14 = .ok (.iload_n 1, 1) := by decide +kernel
theorem dX10_flag_15 : decode cX10_flag 15 = .ok (.invokevirtual 221, 3) := by decide +kernel
theorem dX10_flag_18 : decode cX10_flag 18 = .ok (.ifCond .eq 7, 3) := by decide +kernel
theorem dX10_flag_21 : decode cX10_flag 21 = .ok (.iconst 1, 1) := by decide +kernel
theorem dX10_flag_22 : decode cX10_flag 22 = .ok (.goto 4, 3) := by decide +kernel
theorem dX10_flag_25 : decode cX10_flag 25 = .ok (.iconst 0, 1) := by decide +kernel
theorem dX10_flag_26 : decode cX10_flag 26 = .ok (.istore_n 3, 1) := by decide +kernel
theorem dX10_flag_27 : decode cX10_flag 27 = .ok (.aload_n 0, 1) := by decide +kernel
theorem dX10_flag_28 : decode cX10_flag 28 = .ok (.getfield 58, 3) := by decide +kernel
theorem dX10_flag_31 : decode cX10_flag 31 = .ok (.iload_n 1, 1) := by decide +kernel
theorem dX10_flag_32 : decode cX10_flag 32 = .ok (.iload_n 2, 1) := by decide +kernel
theorem dX10_flag_33 : decode cX10_flag 33 = .ok (.invokevirtual 224, 3) := by decide +kernel
theorem dX10_flag_36 : decode cX10_flag 36 = .ok (.iload_n 3, 1) := by decide +kernel
theorem dX10_flag_37 : decode cX10_flag 37 = .ok (.ireturn, 1) := by decide +kernel
set_option maxRecDepth 20000 in
theorem ggX10_refer_X8_known : GoodIn wsX10_refer wsX8_known := goodIn_r _ [8, 9, 10, 39, 40, 41, 42, 43] (by decide +kernel) (by decide +kernel)
set_option maxRecDepth 20000 in
theorem gX10_refer_X8_known : GoodIn wsX10_refer (wsV RX10 132 RX8 yX8_known wsX8_known) := goodIn_app (goodIn_of _ (by decide +kernel)) ggX10_refer_X8_known
set_option maxRecDepth 20000 in
theorem ggX10_refer_X6_areAll : GoodIn wsX10_refer wsX6_areAll := goodIn_r _ [15, 16, 44, 45, 46, 47, 48, 49] (by decide +kernel) (by decide +kernel)
set_option maxRecDepth 20000 in
theorem gX10_refer_X6_areAll : GoodIn wsX10_refer (wsV RX10 228 RX6 yX6_areAll wsX6_areAll) := goodIn_app (goodIn_of _ (by decide +kernel)) ggX10_refer_X6_areAll
set_option maxRecDepth 20000 in
theorem ggX10_refer_X9_isOneOf : GoodIn wsX10_refer wsX9_isOneOf := goodIn_r _ [21, 22, 33, 34, 35, 36, 37, 38] (by decide +kernel) (by decide +kernel)
set_option maxRecDepth 20000 in
theorem gX10_refer_X9_isOneOf : GoodIn wsX10_refer (wsV RX10 144 RX9 yX9_isOneOf wsX9_isOneOf) := goodIn_app (goodIn_of _ (by decide +kernel)) ggX10_refer_X9_isOneOf
theorem dX10_refer_0 : decode cX10_refer 0 = .ok (.aload_n 0, 1) := by decide +kernel
theorem dX10_refer_1 : decode cX10_refer 1 = .ok (.getfield 39, 3) := by decide +kernel
theorem dX10_refer_4 : decode cX10_refer 4 = .ok (.iload_n 1, 1) := by decide +kernel
theorem dX10_refer_5 : decode cX10_refer 5 = .ok (.invokevirtual 132, 3) := by decide +kernel
theorem dX10_refer_8 : decode cX10_refer 8 = .ok (.astore_n 3, 1) := by decide +kernel
theorem dX10_refer_9 : decode cX10_refer 9 = .ok (.aload_n 3, 1) := by decide +kernel
theorem dX10_refer_10 : decode cX10_refer 10 = .ok (.ifnonnull 6, 3) := by decide +kernel
theorem dX10_refer_13 : decode cX10_refer 13 = .ok (.bipush (-2), 2) := by decide +kernel
theorem dX10_refer_15 : decode cX10_refer 15 = .ok (.ireturn, 1) := by decide +kernel
theorem dX10_refer_16 : decode cX10_refer 16 = .ok (.aload_n 0, 1) := by decide +kernel
theorem dX10_refer_17 : decode cX10_refer 17 = .ok (.getfield 58, 3) := by decide +kernel
theorem dX10_refer_20 : decode cX10_refer 20 = .ok (.iload_n 2, 1) := by decide +kernel
theorem dX10_refer_21 : decode cX10_refer 21 = .ok (.invokevirtual 228, 3) := by decide +kernel
theorem dX10_refer_24 : decode cX10_refer 24 = .ok (.ifCond .ne 6, 3) := by decide +kernel
theorem dX10_refer_27 : decode cX10_refer 27 = .ok (.bipush (-3), 2) := by decide +kernel
theorem dX10_refer_29 : decode cX10_refer 29 = .ok (.ireturn, 1) := by decide +kernel
theorem dX10_refer_30 : decode cX10_refer 30 = .ok (.aload_n 3, 1) := by decide +kernel
theorem dX10_refer_31 : decode cX10_refer 31 = .ok (.bipush 16, 2) := by decide +kernel
theorem dX10_refer_33 : decode cX10_refer 33 = .ok (.invokevirtual 144, 3) := by decide +kernel
theorem dX10_refer_36 : decode cX10_refer 36 = .ok (.ifCond .ne 6, 3) := by decide +kernel
theorem dX10_refer_39 : decode cX10_refer 39 = .ok (.bipush (-4), 2) := by decide +kernel
theorem dX10_refer_41 : decode cX10_refer 41 = .ok (.ireturn, 1) := by decide +kernel
theorem dX10_refer_42 : decode cX10_refer 42 = .ok (.aload_n 3, 1) := by decide +kernel
theorem dX10_refer_43 : decode cX10_refer 43 = .ok (.getfield 231, 3) := by decide +kernel
theorem dX10_refer_46 : decode cX10_refer 46 = .ok (.istore 4, 2) := by decide +kernel
theorem dX10_refer_48 : decode cX10_refer 48 = .ok (.aload_n 3, 1) := by decide +kernel
theorem dX10_refer_49 : decode cX10_refer 49 = .ok (.iload_n 2, 1) := by decide +kernel
theorem dX10_refer_50 : decode cX10_refer 50 = .ok (.putfield 231, 3) := by decide +kernel
theorem dX10_refer_53 : decode cX10_refer 53 = .ok (.iload 4, 2) := by decide +kernel
theorem dX10_refer_55 : decode cX10_refer 55 = .ok (.ireturn, 1) := by decide +kernel
set_option maxRecDepth 20000 in
theorem ggX10_meant_X7_has : GoodIn wsX10_meant wsX7_has := goodIn_r _ [6, 7, 60, 61, 62, 63, 64, 65, 66] (by decide +kernel) (by decide +kernel)
set_option maxRecDepth 20000 in
theorem gX10_meant_X7_has : GoodIn wsX10_meant (wsV RX10 165 RX7 yX7_has wsX7_has) := goodIn_app (goodIn_of _ (by decide +kernel)) ggX10_meant_X7_has
set_option maxRecDepth 20000 in
theorem ggX10_meant_X10_thingsMeantAt : GoodIn wsX10_meant wsX10_thingsMeantAt := goodIn_r _ [12, 13, 1, 14, 15, 16, 17, 18, 19, 11, 20, 21, 22, 2, 3, 4, 5, 6, 7, 23, 24, 25, 26, 27, 28, 29, 30, 31, 32, 33, 34, 35, 36, 37, 38, 39, 40, 41, 42, 43, 44, 45, 46, 47, 48, 49, 50, 51, 52, 53, 54, 55, 56, 57, 58, 59, 60, 61, 62, 63, 64, 65, 66, 67, 68, 69, 70, 71, 72, 73, 74, 75, 76, 77, 78, 79, 80, 81, 82, 83] (by decide +kernel) (by decide +kernel)
set_option maxRecDepth 20000 in
theorem gX10_meant_X10_thingsMeantAt : GoodIn wsX10_meant (wsV RX10 234 RX10 yX10_thingsMeantAt wsX10_thingsMeantAt) := goodIn_app (goodIn_of _ (by decide +kernel)) ggX10_meant_X10_thingsMeantAt
theorem dX10_meant_0 : decode cX10_meant 0 = .ok (.aload_n 0, 1) := by decide +kernel
theorem dX10_meant_1 : decode cX10_meant 1 = .ok (.getfield 79, 3) := by decide +kernel
theorem dX10_meant_4 : decode cX10_meant 4 = .ok (.iload_n 1, 1) := by decide +kernel
theorem dX10_meant_5 : decode cX10_meant 5 = .ok (.invokevirtual 165, 3) := by decide +kernel
theorem dX10_meant_8 : decode cX10_meant 8 = .ok (.ifCond .eq 11, 3) := by decide +kernel
theorem dX10_meant_11 : decode cX10_meant 11 = .ok (.aload_n 0, 1) := by decide +kernel
theorem dX10_meant_12 : decode cX10_meant 12 = .ok (.iload_n 1, 1) := by decide +kernel
theorem dX10_meant_13 : decode cX10_meant 13 = .ok (.invokevirtual 234, 3) := by decide +kernel
theorem dX10_meant_16 : decode cX10_meant 16 = .ok (.goto 5, 3) := by decide +kernel
theorem dX10_meant_19 : decode cX10_meant 19 = .ok (.bipush (-2), 2) := by decide +kernel
theorem dX10_meant_21 : decode cX10_meant 21 = .ok (.ireturn, 1) := by decide +kernel
set_option maxRecDepth 20000 in
theorem ggX10_phrase_X7_has : GoodIn wsX10_phrase wsX7_has := goodIn_r _ [8, 9, 80, 81, 82, 83, 84, 85, 86] (by decide +kernel) (by decide +kernel)
set_option maxRecDepth 20000 in
theorem gX10_phrase_X7_has : GoodIn wsX10_phrase (wsV RX10 165 RX7 yX7_has wsX7_has) := goodIn_app (goodIn_of _ (by decide +kernel)) ggX10_phrase_X7_has
set_option maxRecDepth 20000 in
theorem ggX10_phrase_X10_followPhraseFrom : GoodIn wsX10_phrase wsX10_followPhraseFrom := goodIn_r _ [14, 2, 1, 15, 16, 17, 18, 19, 20, 21, 22, 23, 24, 25, 13, 26, 27, 28, 29, 4, 5, 6, 7, 8, 9, 30, 31, 32, 33, 34, 35, 36, 37, 38, 39, 40, 41, 42, 43, 44, 45, 46, 47, 48, 49, 50, 51, 52, 53, 54, 55, 56, 57, 58, 59, 60, 61, 62, 63, 64, 65, 66, 67, 68, 69, 70, 71, 72, 73, 74, 75, 76, 77, 80, 81, 82, 83, 84, 85, 86, 78, 79, 87, 88, 89, 90, 91, 92, 93, 94, 95, 96, 97, 98, 99, 100, 101, 102, 103] (by decide +kernel) (by decide +kernel)
set_option maxRecDepth 20000 in
theorem gX10_phrase_X10_followPhraseFrom : GoodIn wsX10_phrase (wsV RX10 237 RX10 yX10_followPhraseFrom wsX10_followPhraseFrom) := goodIn_app (goodIn_of _ (by decide +kernel)) ggX10_phrase_X10_followPhraseFrom
theorem dX10_phrase_0 : decode cX10_phrase 0 = .ok (.aload_n 0, 1) := by decide +kernel
theorem dX10_phrase_1 : decode cX10_phrase 1 = .ok (.getfield 79, 3) := by decide +kernel
theorem dX10_phrase_4 : decode cX10_phrase 4 = .ok (.iload_n 1, 1) := by decide +kernel
theorem dX10_phrase_5 : decode cX10_phrase 5 = .ok (.invokevirtual 165, 3) := by decide +kernel
theorem dX10_phrase_8 : decode cX10_phrase 8 = .ok (.ifCond .ne 6, 3) := by decide +kernel
theorem dX10_phrase_11 : decode cX10_phrase 11 = .ok (.bipush (-2), 2) := by decide +kernel
theorem dX10_phrase_13 : decode cX10_phrase 13 = .ok (.ireturn, 1) := by decide +kernel
theorem dX10_phrase_14 : decode cX10_phrase 14 = .ok (.aload_n 0, 1) := by decide +kernel
theorem dX10_phrase_15 : decode cX10_phrase 15 = .ok (.iload_n 1, 1) := by decide +kernel
theorem dX10_phrase_16 : decode cX10_phrase 16 = .ok (.invokevirtual 237, 3) := by decide +kernel
theorem dX10_phrase_19 : decode cX10_phrase 19 = .ok (.aload_n 0, 1) := by decide +kernel
theorem dX10_phrase_20 : decode cX10_phrase 20 = .ok (.getfield 72, 3) := by decide +kernel
theorem dX10_phrase_23 : decode cX10_phrase 23 = .ok (.getfield 240, 3) := by decide +kernel
theorem dX10_phrase_26 : decode cX10_phrase 26 = .ok (.ireturn, 1) := by decide +kernel
set_option maxRecDepth 20000 in
theorem ggX10_phraseLength_X7_has : GoodIn wsX10_phraseLength wsX7_has := goodIn_r _ [8, 9, 80, 81, 82, 83, 84, 85, 86] (by decide +kernel) (by decide +kernel)
set_option maxRecDepth 20000 in
theorem gX10_phraseLength_X7_has : GoodIn wsX10_phraseLength (wsV RX10 165 RX7 yX7_has wsX7_has) := goodIn_app (goodIn_of _ (by decide +kernel)) ggX10_phraseLength_X7_has
set_option maxRecDepth 20000 in
theorem ggX10_phraseLength_X10_followPhraseFrom : GoodIn wsX10_phraseLength wsX10_followPhraseFrom := goodIn_r _ [14, 2, 1, 15, 16, 17, 18, 19, 20, 21, 22, 23, 24, 25, 13, 26, 27, 28, 29, 4, 5, 6, 7, 8, 9, 30, 31, 32, 33, 34, 35, 36, 37, 38, 39, 40, 41, 42, 43, 44, 45, 46, 47, 48, 49, 50, 51, 52, 53, 54, 55, 56, 57, 58, 59, 60, 61, 62, 63, 64, 65, 66, 67, 68, 69, 70, 71, 72, 73, 74, 75, 76, 77, 80, 81, 82, 83, 84, 85, 86, 78, 79, 87, 88, 89, 90, 91, 92, 93, 94, 95, 96, 97, 98, 99, 100, 101, 102, 103] (by decide +kernel) (by decide +kernel)
set_option maxRecDepth 20000 in
theorem gX10_phraseLength_X10_followPhraseFrom : GoodIn wsX10_phraseLength (wsV RX10 237 RX10 yX10_followPhraseFrom wsX10_followPhraseFrom) := goodIn_app (goodIn_of _ (by decide +kernel)) ggX10_phraseLength_X10_followPhraseFrom
theorem dX10_phraseLength_0 : decode cX10_phraseLength 0 = .ok (.aload_n 0, 1) := by decide +kernel
theorem dX10_phraseLength_1 : decode cX10_phraseLength 1 = .ok (.getfield 79, 3) := by decide +kernel
theorem dX10_phraseLength_4 : decode cX10_phraseLength 4 = .ok (.iload_n 1, 1) := by decide +kernel
theorem dX10_phraseLength_5 : decode cX10_phraseLength 5 = .ok (.invokevirtual 165, 3) := by decide +kernel
theorem dX10_phraseLength_8 : decode cX10_phraseLength 8 = .ok (.ifCond .ne 6, 3) := by decide +kernel
theorem dX10_phraseLength_11 : decode cX10_phraseLength 11 = .ok (.bipush (-2), 2) := by decide +kernel
theorem dX10_phraseLength_13 : decode cX10_phraseLength 13 = .ok (.ireturn, 1) := by decide +kernel
theorem dX10_phraseLength_14 : decode cX10_phraseLength 14 = .ok (.aload_n 0, 1) := by decide +kernel
theorem dX10_phraseLength_15 : decode cX10_phraseLength 15 = .ok (.iload_n 1, 1) := by decide +kernel
theorem dX10_phraseLength_16 : decode cX10_phraseLength 16 = .ok (.invokevirtual 237, 3) := by decide +kernel
theorem dX10_phraseLength_19 : decode cX10_phraseLength 19 = .ok (.aload_n 0, 1) := by decide +kernel
theorem dX10_phraseLength_20 : decode cX10_phraseLength 20 = .ok (.getfield 72, 3) := by decide +kernel
theorem dX10_phraseLength_23 : decode cX10_phraseLength 23 = .ok (.getfield 243, 3) := by decide +kernel
theorem dX10_phraseLength_26 : decode cX10_phraseLength 26 = .ok (.ireturn, 1) := by decide +kernel
set_option maxRecDepth 20000 in
theorem ggX10_about_X8_known : GoodIn wsX10_about wsX8_known := goodIn_r _ [13, 14, 15, 34, 35, 36, 37, 38] (by decide +kernel) (by decide +kernel)
set_option maxRecDepth 20000 in
theorem gX10_about_X8_known : GoodIn wsX10_about (wsV RX10 132 RX8 yX8_known wsX8_known) := goodIn_app (goodIn_of _ (by decide +kernel)) ggX10_about_X8_known
theorem dX10_about_0 : decode cX10_about 0 = .ok (.aload_n 0, 1) := by decide +kernel
theorem dX10_about_1 : decode cX10_about 1 = .ok (.getfield 39, 3) := by decide +kernel
theorem dX10_about_4 : decode cX10_about 4 = .ok (.iload_n 1, 1) := by decide +kernel
theorem dX10_about_5 : decode cX10_about 5 = .ok (.invokevirtual 132, 3) := by decide +kernel
theorem dX10_about_8 : decode cX10_about 8 = .ok (.astore_n 3, 1) := by decide +kernel
theorem dX10_about_9 : decode cX10_about 9 = .ok (.aload_n 3, 1) := by decide +kernel
theorem dX10_about_10 : decode cX10_about 10 = .ok (.ifnonnull 6, 3) := by decide +kernel
theorem dX10_about_13 : decode cX10_about 13 = .ok (.bipush (-2), 2) := by decide +kernel
theorem dX10_about_15 : decode cX10_about 15 = .ok (.ireturn, 1) := by decide +kernel
theorem dX10_about_16 : decode cX10_about 16 = .ok (.iload_n 2, 1) := by decide +kernel
theorem dX10_about_17 : decode cX10_about 17 = .ok (.tableswitch 72 0 5 #[39, 44, 49, 54, 59, 67], 39) := by decide +kernel
theorem dX10_about_56 : decode cX10_about 56 = .ok (.aload_n 3, 1) := by decide +kernel
theorem dX10_about_57 : decode cX10_about 57 = .ok (.getfield 244, 3) := by decide +kernel
theorem dX10_about_60 : decode cX10_about 60 = .ok (.ireturn, 1) := by decide +kernel
theorem dX10_about_61 : decode cX10_about 61 = .ok (.aload_n 3, 1) := by decide +kernel
theorem dX10_about_62 : decode cX10_about 62 = .ok (.getfield 136, 3) := by decide +kernel
theorem dX10_about_65 : decode cX10_about 65 = .ok (.ireturn, 1) := by decide +kernel
theorem dX10_about_66 : decode cX10_about 66 = .ok (.aload_n 3, 1) := by decide +kernel
theorem dX10_about_67 : decode cX10_about 67 = .ok (.getfield 147, 3) := by decide +kernel
theorem dX10_about_70 : decode cX10_about 70 = .ok (.ireturn, 1) := by decide +kernel
theorem dX10_about_71 : decode cX10_about 71 = .ok (.aload_n 3, 1) := by decide +kernel
theorem dX10_about_72 : decode cX10_about 72 = .ok (.getfield 150, 3) := by decide +kernel
theorem dX10_about_75 : decode cX10_about 75 = .ok (.ireturn, 1) := by decide +kernel
theorem dX10_about_76 : decode cX10_about 76 = .ok (.aload_n 3, 1) := by decide +kernel
theorem dX10_about_77 : decode cX10_about 77 = .ok (.getfield 247, 3) := by decide +kernel
theorem dX10_about_80 : decode cX10_about 80 = .ok (.getfield 118, 3) := by decide +kernel
theorem dX10_about_83 : decode cX10_about 83 = .ok (.ireturn, 1) := by decide +kernel
theorem dX10_about_84 : decode cX10_about 84 = .ok (.aload_n 3, 1) := by decide +kernel
theorem dX10_about_85 : decode cX10_about 85 = .ok (.getfield 231, 3) := by decide +kernel
theorem dX10_about_88 : decode cX10_about 88 = .ok (.ireturn, 1) := by decide +kernel
theorem dX10_about_89 : decode cX10_about 89 = .ok (.bipush (-2), 2) := by decide +kernel
theorem dX10_about_91 : decode cX10_about 91 = .ok (.ireturn, 1) := by decide +kernel
set_option maxRecDepth 20000 in
theorem ggX10_equal_X8_known : GoodIn wsX10_equal wsX8_known := goodIn_r _ [9, 10, 11, 53, 54, 55, 56, 57] (by decide +kernel) (by decide +kernel)
set_option maxRecDepth 20000 in
theorem gX10_equal_X8_known : GoodIn wsX10_equal (wsV RX10 132 RX8 yX8_known wsX8_known) := goodIn_app (goodIn_of _ (by decide +kernel)) ggX10_equal_X8_known
set_option maxRecDepth 20000 in
theorem ggX10_equal_X3_areLike : GoodIn wsX10_equal wsX3_areLike := goodIn_r _ [16, 17, 18, 19, 20, 21, 22, 23, 24, 25, 26, 27, 28, 29, 30, 31, 32, 15, 33, 34, 51, 52, 58, 59] (by decide +kernel) (by decide +kernel)
set_option maxRecDepth 20000 in
theorem gX10_equal_X3_areLike : GoodIn wsX10_equal (wsV RX10 250 RX3 yX3_areLike wsX3_areLike) := goodIn_app (goodIn_of _ (by decide +kernel)) ggX10_equal_X3_areLike
theorem dX10_equal_0 : decode cX10_equal 0 = .ok (.aload_n 0, 1) := by decide +kernel
theorem dX10_equal_1 : decode cX10_equal 1 = .ok (.getfield 39, 3) := by decide +kernel
theorem dX10_equal_4 : decode cX10_equal 4 = .ok (.iload_n 1, 1) := by decide +kernel
theorem dX10_equal_5 : decode cX10_equal 5 = .ok (.invokevirtual 132, 3) := by decide +kernel
theorem dX10_equal_8 : decode cX10_equal 8 = .ok (.astore_n 3, 1) := by decide +kernel
theorem dX10_equal_9 : decode cX10_equal 9 = .ok (.aload_n 0, 1) := by decide +kernel
theorem dX10_equal_10 : decode cX10_equal 10 = .ok (.getfield 39, 3) := by decide +kernel
theorem dX10_equal_13 : decode cX10_equal 13 = .ok (.iload_n 2, 1) := by decide +kernel
theorem dX10_equal_14 : decode cX10_equal 14 = .ok (.invokevirtual 132, 3) := by decide +kernel
theorem dX10_equal_17 : decode cX10_equal 17 = .ok (.astore 4, 2) := by decide +kernel
theorem dX10_equal_19 : decode cX10_equal 19 = .ok (.aload_n 3, 1) := by decide +kernel
theorem dX10_equal_20 : decode cX10_equal 20 = .ok (.ifnull 8, 3) := by decide +kernel
theorem dX10_equal_23 : decode cX10_equal 23 = .ok (.aload 4, 2) := by decide +kernel
theorem dX10_equal_25 : decode cX10_equal 25 = .ok (.ifnonnull 6, 3) := by decide +kernel
theorem dX10_equal_28 : decode cX10_equal 28 = .ok (.bipush (-2), 2) := by decide +kernel
theorem dX10_equal_30 : decode cX10_equal 30 = .ok (.ireturn, 1) := by decide +kernel
theorem dX10_equal_31 : decode cX10_equal 31 = .ok (.aload_n 0, 1) := by decide +kernel
theorem dX10_equal_32 : decode cX10_equal 32 = .ok (.getfield 23, 3) := by decide +kernel
theorem dX10_equal_35 : decode cX10_equal 35 = .ok (.aload_n 3, 1) := by decide +kernel
theorem dX10_equal_36 : decode cX10_equal 36 = .ok (.getfield 247, 3) := by decide +kernel
theorem dX10_equal_39 : decode cX10_equal 39 = .ok (.aload 4, 2) := by decide +kernel
theorem dX10_equal_41 : decode cX10_equal 41 = .ok (.getfield 247, 3) := by decide +kernel
theorem dX10_equal_44 : decode cX10_equal 44 = .ok (.iconst 0, 1) := by decide +kernel
theorem dX10_equal_45 : decode cX10_equal 45 = .ok (.aload 4, 2) := by decide +kernel
theorem dX10_equal_47 : decode cX10_equal 47 = .ok (.getfield 247, 3) := by decide +kernel
theorem dX10_equal_50 : decode cX10_equal 50 = .ok (.getfield 118, 3) := by decide +kernel
theorem dX10_equal_53 : decode cX10_equal 53 = .ok (.invokevirtual 250, 3) := by decide +kernel
theorem dX10_equal_56 : decode cX10_equal 56 = .ok (.ifCond .eq 7, 3) := by decide +kernel
theorem dX10_equal_59 : decode cX10_equal 59 = .ok (.iconst 1, 1) := by decide +kernel
theorem dX10_equal_60 : decode cX10_equal 60 = .ok (.goto 4, 3) := by decide +kernel
theorem dX10_equal_63 : decode cX10_equal 63 = .ok (.iconst 0, 1) := by decide +kernel
theorem dX10_equal_64 : decode cX10_equal 64 = .ok (.ireturn, 1) := by decide +kernel
theorem dX10_told_0 : decode cX10_told 0 = .ok (.iload_n 1, 1) := by decide +kernel
theorem dX10_told_1 : decode cX10_told 1 = .ok (.tableswitch 99 0 6 #[43, 51, 59, 67, 75, 83, 91], 43) := by decide +kernel
theorem dX10_told_44 : decode cX10_told 44 = .ok (.aload_n 0, 1) := by decide +kernel
theorem dX10_told_45 : decode cX10_told 45 = .ok (.getfield 30, 3) := by decide +kernel
theorem dX10_told_48 : decode cX10_told 48 = .ok (.getfield 118, 3) := by decide +kernel
theorem dX10_told_51 : decode cX10_told 51 = .ok (.ireturn, 1) := by decide +kernel
theorem dX10_told_52 : decode cX10_told 52 = .ok (.aload_n 0, 1) := by decide +kernel
theorem dX10_told_53 : decode cX10_told 53 = .ok (.getfield 39, 3) := by decide +kernel
theorem dX10_told_56 : decode cX10_told 56 = .ok (.getfield 93, 3) := by decide +kernel
theorem dX10_told_59 : decode cX10_told 59 = .ok (.ireturn, 1) := by decide +kernel
theorem dX10_told_60 : decode cX10_told 60 = .ok (.aload_n 0, 1) := by decide +kernel
theorem dX10_told_61 : decode cX10_told 61 = .ok (.getfield 39, 3) := by decide +kernel
theorem dX10_told_64 : decode cX10_told 64 = .ok (.getfield 97, 3) := by decide +kernel
theorem dX10_told_67 : decode cX10_told 67 = .ok (.ireturn, 1) := by decide +kernel
theorem dX10_told_68 : decode cX10_told 68 = .ok (.aload_n 0, 1) := by decide +kernel
theorem dX10_told_69 : decode cX10_told 69 = .ok (.getfield 43, 3) := by decide +kernel
theorem dX10_told_72 : decode cX10_told 72 = .ok (.getfield 118, 3) := by decide +kernel
theorem dX10_told_75 : decode cX10_told 75 = .ok (.ireturn, 1) := by decide +kernel
theorem dX10_told_76 : decode cX10_told 76 = .ok (.aload_n 0, 1) := by decide +kernel
theorem dX10_told_77 : decode cX10_told 77 = .ok (.getfield 79, 3) := by decide +kernel
theorem dX10_told_80 : decode cX10_told 80 = .ok (.getfield 254, 3) := by decide +kernel
theorem dX10_told_83 : decode cX10_told 83 = .ok (.ireturn, 1) := by decide +kernel
theorem dX10_told_84 : decode cX10_told 84 = .ok (.aload_n 0, 1) := by decide +kernel
theorem dX10_told_85 : decode cX10_told 85 = .ok (.getfield 58, 3) := by decide +kernel
theorem dX10_told_88 : decode cX10_told 88 = .ok (.getfield 209, 3) := by decide +kernel
theorem dX10_told_91 : decode cX10_told 91 = .ok (.ireturn, 1) := by decide +kernel
theorem dX10_told_92 : decode cX10_told 92 = .ok (.aload_n 0, 1) := by decide +kernel
theorem dX10_told_93 : decode cX10_told 93 = .ok (.getfield 58, 3) := by decide +kernel
theorem dX10_told_96 : decode cX10_told 96 = .ok (.getfield 218, 3) := by decide +kernel
theorem dX10_told_99 : decode cX10_told 99 = .ok (.ireturn, 1) := by decide +kernel
theorem dX10_told_100 : decode cX10_told 100 = .ok (.bipush (-2), 2) := by decide +kernel
theorem dX10_told_102 : decode cX10_told 102 = .ok (.ireturn, 1) := by decide +kernel
theorem dX10_isLanguage_0 : decode cX10_isLanguage 0 = .ok (.iload_n 0, 1) := by decide +kernel
theorem dX10_isLanguage_1 : decode cX10_isLanguage 1 = .ok (.ifCond .lt 12, 3) := by decide +kernel
theorem dX10_isLanguage_4 : decode cX10_isLanguage 4 = .ok (.iload_n 0, 1) := by decide +kernel
theorem dX10_isLanguage_5 : decode cX10_isLanguage 5 = .ok (.iconst 3, 1) := by decide +kernel
theorem dX10_isLanguage_6 : decode cX10_isLanguage 6 = .ok (.if_icmp .ge 7, 3) := by decide +kernel
theorem dX10_isLanguage_9 : decode cX10_isLanguage 9 = .ok (.iconst 1, 1) := by decide +kernel
theorem dX10_isLanguage_10 : decode cX10_isLanguage 10 = .ok (.goto 4, 3) := by decide +kernel
theorem dX10_isLanguage_13 : decode cX10_isLanguage 13 = .ok (.iconst 0, 1) := by decide +kernel
theorem dX10_isLanguage_14 : decode cX10_isLanguage 14 = .ok (.ireturn, 1) := by decide +kernel
theorem dX10_isFlag_0 : decode cX10_isFlag 0 = .ok (.iload_n 0, 1) := by decide +kernel
theorem dX10_isFlag_1 : decode cX10_isFlag 1 = .ok (.ifCond .lt 13, 3) := by decide +kernel
theorem dX10_isFlag_4 : decode cX10_isFlag 4 = .ok (.iload_n 0, 1) := by decide +kernel
theorem dX10_isFlag_5 : decode cX10_isFlag 5 = .ok (.bipush 8, 2) := by decide +kernel
theorem dX10_isFlag_7 : decode cX10_isFlag 7 = .ok (.if_icmp .ge 7, 3) := by decide +kernel
theorem dX10_isFlag_10 : decode cX10_isFlag 10 = .ok (.iconst 1, 1) := by decide +kernel
theorem dX10_isFlag_11 : decode cX10_isFlag 11 = .ok (.goto 4, 3) := by decide +kernel
theorem dX10_isFlag_14 : decode cX10_isFlag 14 = .ok (.iconst 0, 1) := by decide +kernel
theorem dX10_isFlag_15 : decode cX10_isFlag 15 = .ok (.ireturn, 1) := by decide +kernel
theorem dX10_takeSpareTokens_0 : decode cX10_takeSpareTokens 0 = .ok (.aload_n 0, 1) := by decide +kernel
theorem dX10_takeSpareTokens_1 : decode cX10_takeSpareTokens 1 = .ok (.getfield 79, 3) := by decide +kernel
theorem dX10_takeSpareTokens_4 : decode cX10_takeSpareTokens 4 = .ok (.astore_n 1, 1) := by decide +kernel
theorem dX10_takeSpareTokens_5 : decode cX10_takeSpareTokens 5 = .ok (.aload_n 0, 1) := by decide +kernel
theorem dX10_takeSpareTokens_6 : decode cX10_takeSpareTokens 6 = .ok (.aload_n 0, 1) := by decide +kernel
theorem dX10_takeSpareTokens_7 : decode cX10_takeSpareTokens 7 = .ok (.getfield 83, 3) := by decide +kernel
theorem dX10_takeSpareTokens_10 : decode cX10_takeSpareTokens 10 = .ok (.putfield 79, 3) := by decide +kernel
theorem dX10_takeSpareTokens_13 : decode cX10_takeSpareTokens 13 = .ok (.aload_n 0, 1) := by decide +kernel
theorem dX10_takeSpareTokens_14 : decode cX10_takeSpareTokens 14 = .ok (.aload_n 1, 1) := by decide +kernel
theorem dX10_takeSpareTokens_15 : decode cX10_takeSpareTokens 15 = .ok (.putfield 83, 3) := by decide +kernel
theorem dX10_takeSpareTokens_18 : decode cX10_takeSpareTokens 18 = .ok (.aload_n 0, 1) := by decide +kernel
theorem dX10_takeSpareTokens_19 : decode cX10_takeSpareTokens 19 = .ok (.getfield 79, 3) := by decide +kernel
theorem dX10_takeSpareTokens_22 : decode cX10_takeSpareTokens 22 = .ok (.getfield 254, 3) := by decide +kernel
theorem dX10_takeSpareTokens_25 : decode cX10_takeSpareTokens 25 = .ok (.ireturn, 1) := by decide +kernel
set_option maxRecDepth 20000 in
theorem ggX10_wordOf_X7_has : GoodIn wsX10_wordOf wsX7_has := goodIn_r _ [9, 10, 28, 29, 30, 31, 32, 33, 34] (by decide +kernel) (by decide +kernel)
set_option maxRecDepth 20000 in
theorem gX10_wordOf_X7_has : GoodIn wsX10_wordOf (wsV RX10 165 RX7 yX7_has wsX7_has) := goodIn_app (goodIn_of _ (by decide +kernel)) ggX10_wordOf_X7_has
set_option maxRecDepth 20000 in
theorem ggX10_wordOf_X8_known : GoodIn wsX10_wordOf wsX8_known := goodIn_r _ [15, 16, 17, 35, 36, 37, 38, 39] (by decide +kernel) (by decide +kernel)
set_option maxRecDepth 20000 in
theorem gX10_wordOf_X8_known : GoodIn wsX10_wordOf (wsV RX10 132 RX8 yX8_known wsX8_known) := goodIn_app (goodIn_of _ (by decide +kernel)) ggX10_wordOf_X8_known
theorem dX10_wordOf_0 : decode cX10_wordOf 0 = .ok (.aload_n 0, 1) := by decide +kernel
theorem dX10_wordOf_1 : decode cX10_wordOf 1 = .ok (.getfield 79, 3) := by decide +kernel
theorem dX10_wordOf_4 : decode cX10_wordOf 4 = .ok (.iload_n 1, 1) := by decide +kernel
theorem dX10_wordOf_5 : decode cX10_wordOf 5 = .ok (.invokevirtual 165, 3) := by decide +kernel
theorem dX10_wordOf_8 : decode cX10_wordOf 8 = .ok (.ifCond .eq 15, 3) := by decide +kernel
theorem dX10_wordOf_11 : decode cX10_wordOf 11 = .ok (.aload_n 0, 1) := by decide +kernel
theorem dX10_wordOf_12 : decode cX10_wordOf 12 = .ok (.getfield 79, 3) := by decide +kernel
theorem dX10_wordOf_15 : decode cX10_wordOf 15 = .ok (.getfield 168, 3) := by decide +kernel
theorem dX10_wordOf_18 : decode cX10_wordOf 18 = .ok (.iload_n 1, 1) := by decide +kernel
theorem dX10_wordOf_19 : decode cX10_wordOf 19 = .ok (.iaload, 1) := by decide +kernel
theorem dX10_wordOf_20 : decode cX10_wordOf 20 = .ok (.ifCond .eq 5, 3) := by decide +kernel
theorem dX10_wordOf_23 : decode cX10_wordOf 23 = .ok (.aconst_null, 1) := by decide +kernel
theorem dX10_wordOf_24 : decode cX10_wordOf 24 = .ok (.areturn, 1) := by decide +kernel
theorem dX10_wordOf_25 : decode cX10_wordOf 25 = .ok (.aload_n 0, 1) := by decide +kernel
theorem dX10_wordOf_26 : decode cX10_wordOf 26 = .ok (.getfield 39, 3) := by decide +kernel
theorem dX10_wordOf_29 : decode cX10_wordOf 29 = .ok (.aload_n 0, 1) := by decide +kernel
theorem dX10_wordOf_30 : decode cX10_wordOf 30 = .ok (.getfield 79, 3) := by decide +kernel
theorem dX10_wordOf_33 : decode cX10_wordOf 33 = .ok (.getfield 178, 3) := by decide +kernel
theorem dX10_wordOf_36 : decode cX10_wordOf 36 = .ok (.iload_n 1, 1) := by decide +kernel
theorem dX10_wordOf_37 : decode cX10_wordOf 37 = .ok (.iaload, 1) := by decide +kernel
theorem dX10_wordOf_38 : decode cX10_wordOf 38 = .ok (.invokevirtual 132, 3) := by decide +kernel
theorem dX10_wordOf_41 : decode cX10_wordOf 41 = .ok (.areturn, 1) := by decide +kernel
theorem dX10_kindsOf_0 : decode cX10_kindsOf 0 = .ok (.aload_n 0, 1) := by decide +kernel
theorem dX10_kindsOf_1 : decode cX10_kindsOf 1 = .ok (.ifnonnull 7, 3) := by decide +kernel
theorem dX10_kindsOf_4 : decode cX10_kindsOf 4 = .ok (.iconst 0, 1) := by decide +kernel
theorem dX10_kindsOf_5 : decode cX10_kindsOf 5 = .ok (.goto 7, 3) := by decide +kernel
theorem dX10_kindsOf_8 : decode cX10_kindsOf 8 = .ok (.aload_n 0, 1) := by decide +kernel
theorem dX10_kindsOf_9 : decode cX10_kindsOf 9 = .ok (.getfield 136, 3) := by decide +kernel
theorem dX10_kindsOf_12 : decode cX10_kindsOf 12 = .ok (.ireturn, 1) := by decide +kernel
set_option maxRecDepth 20000 in
theorem ggX10_sumUpFrom_X5_clear : GoodIn wsX10_sumUpFrom wsX5_clear := goodIn_r _ [11, 12, 13, 14, 80, 81, 82] (by decide +kernel) (by decide +kernel)
set_option maxRecDepth 20000 in
theorem gX10_sumUpFrom_X5_clear : GoodIn wsX10_sumUpFrom (wsV RX10 255 RX5 yX5_clear wsX5_clear) := goodIn_app (goodIn_of _ (by decide +kernel)) ggX10_sumUpFrom_X5_clear
set_option maxRecDepth 20000 in
theorem ggX10_sumUpFrom_X7_has : GoodIn wsX10_sumUpFrom wsX7_has := goodIn_r _ [19, 20, 67, 68, 69, 70, 71, 72, 73] (by decide +kernel) (by decide +kernel)
set_option maxRecDepth 20000 in
theorem gX10_sumUpFrom_X7_has : GoodIn wsX10_sumUpFrom (wsV RX10 165 RX7 yX7_has wsX7_has) := goodIn_app (goodIn_of _ (by decide +kernel)) ggX10_sumUpFrom_X7_has
set_option maxRecDepth 20000 in
theorem ggX10_sumUpFrom_X5_begin : GoodIn wsX10_sumUpFrom wsX5_begin := goodIn_r _ [24, 12, 13, 14, 80, 81, 82] (by decide +kernel) (by decide +kernel)
set_option maxRecDepth 20000 in
theorem gX10_sumUpFrom_X5_begin : GoodIn wsX10_sumUpFrom (wsV RX10 256 RX5 yX5_begin wsX5_begin) := goodIn_app (goodIn_of _ (by decide +kernel)) ggX10_sumUpFrom_X5_begin
set_option maxRecDepth 20000 in
theorem ggX10_sumUpFrom_X10_wordOf : GoodIn wsX10_sumUpFrom wsX10_wordOf := goodIn_r _ [29, 2, 3, 30, 4, 15, 16, 17, 18, 19, 20, 31, 32, 33, 34, 35, 36, 37, 57, 58, 59, 60, 61, 62, 63, 64, 65, 66, 67, 68, 69, 70, 71, 72, 73, 83, 84, 85, 86, 87] (by decide +kernel) (by decide +kernel)
set_option maxRecDepth 20000 in
theorem gX10_sumUpFrom_X10_wordOf : GoodIn wsX10_sumUpFrom (wsV RX10 181 RX10 yX10_wordOf wsX10_wordOf) := goodIn_app (goodIn_of _ (by decide +kernel)) ggX10_sumUpFrom_X10_wordOf
set_option maxRecDepth 20000 in
theorem ggX10_sumUpFrom_X9_isOneOf : GoodIn wsX10_sumUpFrom wsX9_isOneOf := goodIn_r _ [42, 43, 74, 75, 76, 77, 78, 79] (by decide +kernel) (by decide +kernel)
set_option maxRecDepth 20000 in
theorem gX10_sumUpFrom_X9_isOneOf : GoodIn wsX10_sumUpFrom (wsV RX10 144 RX9 yX9_isOneOf wsX9_isOneOf) := goodIn_app (goodIn_of _ (by decide +kernel)) ggX10_sumUpFrom_X9_isOneOf
set_option maxRecDepth 20000 in
theorem ggX10_sumUpFrom_X5_accept : GoodIn wsX10_sumUpFrom wsX5_accept := goodIn_r _ [47, 14, 13, 12, 48, 22, 23, 10, 24, 49, 50, 51, 52, 53, 54, 55, 56, 80, 81, 82] (by decide +kernel) (by decide +kernel)
set_option maxRecDepth 20000 in
theorem gX10_sumUpFrom_X5_accept : GoodIn wsX10_sumUpFrom (wsV RX10 259 RX5 yX5_accept wsX5_accept) := goodIn_app (goodIn_of _ (by decide +kernel)) ggX10_sumUpFrom_X5_accept
theorem dX10_sumUpFrom_0 : decode cX10_sumUpFrom 0 = .ok (.aload_n 0, 1) := by decide +kernel
theorem dX10_sumUpFrom_1 : decode cX10_sumUpFrom 1 = .ok (.getfield 65, 3) := by decide +kernel
theorem dX10_sumUpFrom_4 : decode cX10_sumUpFrom 4 = .ok (.invokevirtual 255, 3) := by decide +kernel
theorem dX10_sumUpFrom_7 : decode cX10_sumUpFrom 7 = .ok (.aload_n 0, 1) := by decide +kernel
theorem dX10_sumUpFrom_8 : decode cX10_sumUpFrom 8 = .ok (.getfield 79, 3) := by decide +kernel
theorem dX10_sumUpFrom_11 : decode cX10_sumUpFrom 11 = .ok (.iload_n 1, 1) := by decide +kernel
theorem dX10_sumUpFrom_12 : decode cX10_sumUpFrom 12 = .ok (.invokevirtual 165, 3) := by decide +kernel
theorem dX10_sumUpFrom_15 : decode cX10_sumUpFrom 15 = .ok (.ifCond .ne 4, 3) := by decide +kernel
theorem dX10_sumUpFrom_18 : decode cX10_sumUpFrom 18 = .ok (.return_, 1) := by decide +kernel
theorem dX10_sumUpFrom_19 : decode cX10_sumUpFrom 19 = .ok (.aload_n 0, 1) := by decide +kernel
theorem dX10_sumUpFrom_20 : decode cX10_sumUpFrom 20 = .ok (.getfield 79, 3) := by decide +kernel
theorem dX10_sumUpFrom_23 : decode cX10_sumUpFrom 23 = .ok (.getfield 168, 3) := by decide +kernel
theorem dX10_sumUpFrom_26 : decode cX10_sumUpFrom 26 = .ok (.iload_n 1, 1) := by decide +kernel
theorem dX10_sumUpFrom_27 : decode cX10_sumUpFrom 27 = .ok (.iaload, 1) := by decide +kernel
theorem dX10_sumUpFrom_28 : decode cX10_sumUpFrom 28 = .ok (.iconst 2, 1) := by decide +kernel
theorem dX10_sumUpFrom_29 : decode cX10_sumUpFrom 29 = .ok (.if_icmp .ne 20, 3) := by decide +kernel
theorem dX10_sumUpFrom_32 : decode cX10_sumUpFrom 32 = .ok (.aload_n 0, 1) := by decide +kernel
theorem dX10_sumUpFrom_33 : decode cX10_sumUpFrom 33 = .ok (.getfield 65, 3) := by decide +kernel
theorem dX10_sumUpFrom_36 : decode cX10_sumUpFrom 36 = .ok (.aload_n 0, 1) := by decide +kernel
theorem dX10_sumUpFrom_37 : decode cX10_sumUpFrom 37 = .ok (.getfield 79, 3) := by decide +kernel
theorem dX10_sumUpFrom_40 : decode cX10_sumUpFrom 40 = .ok (.getfield 178, 3) := by decide +kernel
theorem dX10_sumUpFrom_43 : decode cX10_sumUpFrom 43 = .ok (.iload_n 1, 1) := by decide +kernel
theorem dX10_sumUpFrom_44 : decode cX10_sumUpFrom 44 = .ok (.iaload, 1) := by decide +kernel
theorem dX10_sumUpFrom_45 : decode cX10_sumUpFrom 45 = .ok (.invokevirtual 256, 3) := by decide +kernel
theorem dX10_sumUpFrom_48 : decode cX10_sumUpFrom 48 = .ok (.return_, 1) := by decide +kernel
theorem dX10_sumUpFrom_49 : decode cX10_sumUpFrom 49 = .ok (.iconst 1, 1) := by decide +kernel
theorem dX10_sumUpFrom_50 : decode cX10_sumUpFrom 50 = .ok (.istore_n 2, 1) := by decide +kernel
theorem dX10_sumUpFrom_51 : decode cX10_sumUpFrom 51 = .ok (.iload_n 1, 1) := by decide +kernel
theorem dX10_sumUpFrom_52 : decode cX10_sumUpFrom 52 = .ok (.istore_n 3, 1) := by decide +kernel
theorem dX10_sumUpFrom_53 : decode cX10_sumUpFrom 53 = .ok (.iload_n 3, 1) := by decide +kernel
theorem dX10_sumUpFrom_54 : decode cX10_sumUpFrom 54 = .ok (.aload_n 0, 1) := by decide +kernel
theorem dX10_sumUpFrom_55 : decode cX10_sumUpFrom 55 = .ok (.getfield 79, 3) := by decide +kernel
theorem dX10_sumUpFrom_58 : decode cX10_sumUpFrom 58 = .ok (.getfield 254, 3) := by decide +kernel
theorem dX10_sumUpFrom_61 : decode cX10_sumUpFrom 61 = .ok (.if_icmp .ge 56, 3) := by decide +kernel
theorem dX10_sumUpFrom_64 : decode cX10_sumUpFrom 64 = .ok (.iload_n 2, 1) := by decide +kernel
theorem dX10_sumUpFrom_65 : decode cX10_sumUpFrom 65 = .ok (.ifCond .eq 52, 3) := by decide +kernel
theorem dX10_sumUpFrom_68 : decode cX10_sumUpFrom 68 = .ok (.aload_n 0, 1) := by decide +kernel
theorem dX10_sumUpFrom_69 : decode cX10_sumUpFrom 69 = .ok (.iload_n 3, 1) := by decide +kernel
theorem dX10_sumUpFrom_70 : decode cX10_sumUpFrom 70 = .ok (.invokevirtual 181, 3) := by decide +kernel
theorem dX10_sumUpFrom_73 : decode cX10_sumUpFrom 73 = .ok (.astore 4, 2) := by decide +kernel
theorem dX10_sumUpFrom_75 : decode cX10_sumUpFrom 75 = .ok (.aload 4, 2) := by decide +kernel
theorem dX10_sumUpFrom_77 : decode cX10_sumUpFrom 77 = .ok (.ifnull 32, 3) := by decide +kernel
theorem dX10_sumUpFrom_80 : decode cX10_sumUpFrom 80 = .ok (.aload 4, 2) := by decide +kernel
theorem dX10_sumUpFrom_82 : decode cX10_sumUpFrom 82 = .ok (.bipush 32, 2) := by decide +kernel
theorem dX10_sumUpFrom_84 : decode cX10_sumUpFrom 84 = .ok (.invokevirtual 144, 3) := by decide +kernel
theorem dX10_sumUpFrom_87 : decode cX10_sumUpFrom 87 = .ok (.ifCond .eq 22, 3) := by decide +kernel
theorem dX10_sumUpFrom_90 : decode cX10_sumUpFrom 90 = .ok (.aload_n 0, 1) := by decide +kernel
theorem dX10_sumUpFrom_91 : decode cX10_sumUpFrom 91 = .ok (.getfield 65, 3) := by decide +kernel
theorem dX10_sumUpFrom_94 : decode cX10_sumUpFrom 94 = .ok (.aload 4, 2) := by decide +kernel
theorem dX10_sumUpFrom_96 : decode cX10_sumUpFrom 96 = .ok (.getfield 147, 3) := by decide +kernel
theorem dX10_sumUpFrom_99 : decode cX10_sumUpFrom 99 = .ok (.invokevirtual 259, 3) := by decide +kernel
theorem dX10_sumUpFrom_102 : decode cX10_sumUpFrom 102 = .ok (.ifCond .eq 7, 3) := by decide +kernel
theorem dX10_sumUpFrom_105 : decode cX10_sumUpFrom 105 = .ok (.iconst 1, 1) := by decide +kernel
theorem dX10_sumUpFrom_106 : decode cX10_sumUpFrom 106 = .ok (.goto 4, 3) := by decide +kernel
theorem dX10_sumUpFrom_109 : decode cX10_sumUpFrom 109 = .ok (.iconst 0, 1) := by decide +kernel
theorem dX10_sumUpFrom_110 : decode cX10_sumUpFrom 110 = .ok (.istore_n 2, 1) := by decide +kernel
theorem dX10_sumUpFrom_111 : decode cX10_sumUpFrom 111 = .ok (.iinc 3 1, 3) := by decide +kernel
theorem dX10_sumUpFrom_114 : decode cX10_sumUpFrom 114 = .ok (.goto (-61), 3) := by decide +kernel
theorem dX10_sumUpFrom_117 : decode cX10_sumUpFrom 117 = .ok (.return_, 1) := by decide +kernel
set_option maxRecDepth 20000 in
theorem ggX10_thingsMeantAt_X10_wordOf : GoodIn wsX10_thingsMeantAt wsX10_wordOf := goodIn_r _ [10, 2, 11, 12, 3, 13, 14, 15, 16, 17, 18, 19, 20, 21, 22, 23, 24, 25, 46, 47, 48, 49, 50, 51, 52, 53, 54, 55, 56, 57, 58, 59, 60, 61, 62, 69, 70, 71, 72, 73] (by decide +kernel) (by decide +kernel)
set_option maxRecDepth 20000 in
theorem gX10_thingsMeantAt_X10_wordOf : GoodIn wsX10_thingsMeantAt (wsV RX10 181 RX10 yX10_wordOf wsX10_wordOf) := goodIn_app (goodIn_of _ (by decide +kernel)) ggX10_thingsMeantAt_X10_wordOf
set_option maxRecDepth 20000 in
theorem ggX10_thingsMeantAt_X6_meantBy : GoodIn wsX10_thingsMeantAt wsX6_meantBy := goodIn_r _ [30, 31, 32, 33, 34, 35, 36, 37, 29, 38, 39, 74, 75, 76, 77, 78, 79] (by decide +kernel) (by decide +kernel)
set_option maxRecDepth 20000 in
theorem gX10_thingsMeantAt_X6_meantBy : GoodIn wsX10_thingsMeantAt (wsV RX10 262 RX6 yX6_meantBy wsX6_meantBy) := goodIn_app (goodIn_of _ (by decide +kernel)) ggX10_thingsMeantAt_X6_meantBy
set_option maxRecDepth 20000 in
theorem ggX10_thingsMeantAt_X9_isOneOf : GoodIn wsX10_thingsMeantAt wsX9_isOneOf := goodIn_r _ [44, 45, 63, 64, 65, 66, 67, 68] (by decide +kernel) (by decide +kernel)
set_option maxRecDepth 20000 in
theorem gX10_thingsMeantAt_X9_isOneOf : GoodIn wsX10_thingsMeantAt (wsV RX10 144 RX9 yX9_isOneOf wsX9_isOneOf) := goodIn_app (goodIn_of _ (by decide +kernel)) ggX10_thingsMeantAt_X9_isOneOf
theorem dX10_thingsMeantAt_0 : decode cX10_thingsMeantAt 0 = .ok (.aload_n 0, 1) := by decide +kernel
theorem dX10_thingsMeantAt_1 : decode cX10_thingsMeantAt 1 = .ok (.iload_n 1, 1) := by decide +kernel
theorem dX10_thingsMeantAt_2 : decode cX10_thingsMeantAt 2 = .ok (.invokevirtual 181, 3) := by decide +kernel
theorem dX10_thingsMeantAt_5 : decode cX10_thingsMeantAt 5 = .ok (.astore_n 2, 1) := by decide +kernel
theorem dX10_thingsMeantAt_6 : decode cX10_thingsMeantAt 6 = .ok (.aload_n 2, 1) := by decide +kernel
theorem dX10_thingsMeantAt_7 : decode cX10_thingsMeantAt 7 = .ok (.ifnonnull 5, 3) := by decide +kernel
theorem dX10_thingsMeantAt_10 : decode cX10_thingsMeantAt 10 = .ok (.iconst 0, 1) := by decide +kernel
theorem dX10_thingsMeantAt_11 : decode cX10_thingsMeantAt 11 = .ok (.ireturn, 1) := by decide +kernel
theorem dX10_thingsMeantAt_12 : decode cX10_thingsMeantAt 12 = .ok (.aload_n 0, 1) := by decide +kernel
theorem dX10_thingsMeantAt_13 : decode cX10_thingsMeantAt 13 = .ok (.getfield 58, 3) := by decide +kernel
theorem dX10_thingsMeantAt_16 : decode cX10_thingsMeantAt 16 = .ok (.aload_n 0, 1) := by decide +kernel
theorem dX10_thingsMeantAt_17 : decode cX10_thingsMeantAt 17 = .ok (.getfield 79, 3) := by decide +kernel
theorem dX10_thingsMeantAt_20 : decode cX10_thingsMeantAt 20 = .ok (.getfield 178, 3) := by decide +kernel
theorem dX10_thingsMeantAt_23 : decode cX10_thingsMeantAt 23 = .ok (.iload_n 1, 1) := by decide +kernel
theorem dX10_thingsMeantAt_24 : decode cX10_thingsMeantAt 24 = .ok (.iaload, 1) := by decide +kernel
theorem dX10_thingsMeantAt_25 : decode cX10_thingsMeantAt 25 = .ok (.invokevirtual 262, 3) := by decide +kernel
theorem dX10_thingsMeantAt_28 : decode cX10_thingsMeantAt 28 = .ok (.istore_n 3, 1) := by decide +kernel
theorem dX10_thingsMeantAt_29 : decode cX10_thingsMeantAt 29 = .ok (.aload_n 2, 1) := by decide +kernel
theorem dX10_thingsMeantAt_30 : decode cX10_thingsMeantAt 30 = .ok (.getfield 150, 3) := by decide +kernel
theorem dX10_thingsMeantAt_33 : decode cX10_thingsMeantAt 33 = .ok (.iconst (-1), 1) := by decide +kernel
theorem dX10_thingsMeantAt_34 : decode cX10_thingsMeantAt 34 = .ok (.if_icmp .eq 17, 3) := by decide +kernel
theorem dX10_thingsMeantAt_37 : decode cX10_thingsMeantAt 37 = .ok (.iload_n 3, 1) := by decide +kernel
theorem dX10_thingsMeantAt_38 : decode cX10_thingsMeantAt 38 = .ok (.aload_n 0, 1) := by decide +kernel
theorem dX10_thingsMeantAt_39 : decode cX10_thingsMeantAt 39 = .ok (.getfield 58, 3) := by decide +kernel
theorem dX10_thingsMeantAt_42 : decode cX10_thingsMeantAt 42 = .ok (.aload_n 2, 1) := by decide +kernel
theorem dX10_thingsMeantAt_43 : decode cX10_thingsMeantAt 43 = .ok (.getfield 150, 3) := by decide +kernel
theorem dX10_thingsMeantAt_46 : decode cX10_thingsMeantAt 46 = .ok (.invokevirtual 262, 3) := by decide +kernel
theorem dX10_thingsMeantAt_49 : decode cX10_thingsMeantAt 49 = .ok (.ior, 1) := by decide +kernel
theorem dX10_thingsMeantAt_50 : decode cX10_thingsMeantAt 50 = .ok (.istore_n 3, 1) := by decide +kernel
theorem dX10_thingsMeantAt_51 : decode cX10_thingsMeantAt 51 = .ok (.aload_n 2, 1) := by decide +kernel
theorem dX10_thingsMeantAt_52 : decode cX10_thingsMeantAt 52 = .ok (.bipush 16, 2) := by decide +kernel
theorem dX10_thingsMeantAt_54 : decode cX10_thingsMeantAt 54 = .ok (.invokevirtual 144, 3) := by decide +kernel
theorem dX10_thingsMeantAt_57 : decode cX10_thingsMeantAt 57 = .ok (.ifCond .eq 10, 3) := by decide +kernel
theorem dX10_thingsMeantAt_60 : decode cX10_thingsMeantAt 60 = .ok (.iload_n 3, 1) := by decide +kernel
theorem dX10_thingsMeantAt_61 : decode cX10_thingsMeantAt 61 = .ok (.aload_n 2, 1) := by decide +kernel
theorem dX10_thingsMeantAt_62 : decode cX10_thingsMeantAt 62 = .ok (.getfield 231, 3) := by decide +kernel
theorem dX10_thingsMeantAt_65 : decode cX10_thingsMeantAt 65 = .ok (.ior, 1) := by decide +kernel
theorem dX10_thingsMeantAt_66 : decode cX10_thingsMeantAt 66 = .ok (.istore_n 3, 1) := by decide +kernel
theorem dX10_thingsMeantAt_67 : decode cX10_thingsMeantAt 67 = .ok (.iload_n 3, 1) := by decide +kernel
theorem dX10_thingsMeantAt_68 : decode cX10_thingsMeantAt 68 = .ok (.ireturn, 1) := by decide +kernel
set_option maxRecDepth 20000 in
theorem ggX10_followPhraseFrom_X0_clear : GoodIn wsX10_followPhraseFrom wsX0_clear := goodIn_r _ [8, 9, 10, 80, 81] (by decide +kernel) (by decide +kernel)
set_option maxRecDepth 20000 in
theorem gX10_followPhraseFrom_X0_clear : GoodIn wsX10_followPhraseFrom (wsV RX10 265 RX0 yX0_clear wsX0_clear) := goodIn_app (goodIn_of _ (by decide +kernel)) ggX10_followPhraseFrom_X0_clear
set_option maxRecDepth 20000 in
theorem ggX10_followPhraseFrom_X10_wordOf : GoodIn wsX10_followPhraseFrom wsX10_wordOf := goodIn_r _ [15, 2, 16, 17, 18, 19, 20, 21, 22, 23, 24, 25, 26, 27, 28, 29, 30, 31, 63, 64, 65, 66, 67, 68, 69, 70, 71, 72, 73, 74, 75, 76, 77, 78, 79, 82, 83, 84, 85, 86] (by decide +kernel) (by decide +kernel)
set_option maxRecDepth 20000 in
theorem gX10_followPhraseFrom_X10_wordOf : GoodIn wsX10_followPhraseFrom (wsV RX10 181 RX10 yX10_wordOf wsX10_wordOf) := goodIn_app (goodIn_of _ (by decide +kernel)) ggX10_followPhraseFrom_X10_wordOf
set_option maxRecDepth 20000 in
theorem ggX10_followPhraseFrom_X9_isOneOf : GoodIn wsX10_followPhraseFrom wsX9_isOneOf := goodIn_r _ [36, 37, 87, 88, 89, 90, 91, 92] (by decide +kernel) (by decide +kernel)
set_option maxRecDepth 20000 in
theorem gX10_followPhraseFrom_X9_isOneOf : GoodIn wsX10_followPhraseFrom (wsV RX10 144 RX9 yX9_isOneOf wsX9_isOneOf) := goodIn_app (goodIn_of _ (by decide +kernel)) ggX10_followPhraseFrom_X9_isOneOf
set_option maxRecDepth 20000 in
theorem ggX10_followPhraseFrom_X10_thingsMeantAt : GoodIn wsX10_followPhraseFrom wsX10_thingsMeantAt := goodIn_r _ [41, 42, 2, 18, 43, 44, 11, 12, 13, 14, 15, 16, 17, 19, 20, 21, 22, 23, 24, 25, 26, 27, 28, 29, 30, 31, 45, 46, 47, 48, 49, 50, 51, 52, 53, 54, 55, 56, 57, 58, 32, 33, 34, 35, 36, 37, 63, 64, 65, 66, 67, 68, 69, 70, 71, 72, 73, 74, 75, 76, 77, 78, 79, 87, 88, 89, 90, 91, 92, 82, 83, 84, 85, 86, 93, 94, 95, 96, 97, 98] (by decide +kernel) (by decide +kernel)
set_option maxRecDepth 20000 in
theorem gX10_followPhraseFrom_X10_thingsMeantAt : GoodIn wsX10_followPhraseFrom (wsV RX10 234 RX10 yX10_thingsMeantAt wsX10_thingsMeantAt) := goodIn_app (goodIn_of _ (by decide +kernel)) ggX10_followPhraseFrom_X10_thingsMeantAt
set_option maxRecDepth 20000 in
theorem ggX10_followPhraseFrom_X0_accept : GoodIn wsX10_followPhraseFrom wsX0_accept := goodIn_r _ [62, 10, 9, 80, 81] (by decide +kernel) (by decide +kernel)
set_option maxRecDepth 20000 in
theorem gX10_followPhraseFrom_X0_accept : GoodIn wsX10_followPhraseFrom (wsV RX10 266 RX0 yX0_accept wsX0_accept) := goodIn_app (goodIn_of _ (by decide +kernel)) ggX10_followPhraseFrom_X0_accept
theorem dX10_followPhraseFrom_0 : decode cX10_followPhraseFrom 0 = .ok (.aload_n 0, 1) := by decide +kernel
theorem dX10_followPhraseFrom_1 : decode cX10_followPhraseFrom 1 = .ok (.getfield 72, 3) := by decide +kernel
theorem dX10_followPhraseFrom_4 : decode cX10_followPhraseFrom 4 = .ok (.invokevirtual 265, 3) := by decide +kernel
theorem dX10_followPhraseFrom_7 : decode cX10_followPhraseFrom 7 = .ok (.iconst 1, 1) := by decide +kernel
theorem dX10_followPhraseFrom_8 : decode cX10_followPhraseFrom 8 = .ok (.istore_n 2, 1) := by decide +kernel
theorem dX10_followPhraseFrom_9 : decode cX10_followPhraseFrom 9 = .ok (.iload_n 1, 1) := by decide +kernel
theorem dX10_followPhraseFrom_10 : decode cX10_followPhraseFrom 10 = .ok (.istore_n 3, 1) := by decide +kernel
theorem dX10_followPhraseFrom_11 : decode cX10_followPhraseFrom 11 = .ok (.iload_n 3, 1) := by decide +kernel
theorem dX10_followPhraseFrom_12 : decode cX10_followPhraseFrom 12 = .ok (.aload_n 0, 1) := by decide +kernel
theorem dX10_followPhraseFrom_13 : decode cX10_followPhraseFrom 13 = .ok (.getfield 79, 3) := by decide +kernel
theorem dX10_followPhraseFrom_16 : decode cX10_followPhraseFrom 16 = .ok (.getfield 254, 3) := by decide +kernel
theorem dX10_followPhraseFrom_19 : decode cX10_followPhraseFrom 19 = .ok (.if_icmp .ge 56, 3) := by decide +kernel
theorem dX10_followPhraseFrom_22 : decode cX10_followPhraseFrom 22 = .ok (.iload_n 2, 1) := by decide +kernel
theorem dX10_followPhraseFrom_23 : decode cX10_followPhraseFrom 23 = .ok (.ifCond .eq 52, 3) := by decide +kernel
theorem dX10_followPhraseFrom_26 : decode cX10_followPhraseFrom 26 = .ok (.aload_n 0, 1) := by decide +kernel
theorem dX10_followPhraseFrom_27 : decode cX10_followPhraseFrom 27 = .ok (.iload_n 3, 1) := by decide +kernel
end
section
theorem dX10_followPhraseFrom_28 : decode cX10_followPhraseFrom 28 = .ok (.invokevirtual 181, 3) := by decide +kernel
theorem dX10_followPhraseFrom_31 : decode cX10_followPhraseFrom 31 = .ok (.astore 4, 2) := by decide +kernel
theorem dX10_followPhraseFrom_33 : decode cX10_followPhraseFrom 33 = .ok (.aload 4, 2) := by decide +kernel
theorem dX10_followPhraseFrom_35 : decode cX10_followPhraseFrom 35 = .ok (.ifnull 32, 3) := by decide +kernel
theorem dX10_followPhraseFrom_38 : decode cX10_followPhraseFrom 38 = .ok (.aload 4, 2) := by decide +kernel
theorem dX10_followPhraseFrom_40 : decode cX10_followPhraseFrom 40 = .ok (.bipush 22, 2) := by decide +kernel
theorem dX10_followPhraseFrom_42 : decode cX10_followPhraseFrom 42 = .ok (.invokevirtual 144, 3) := by decide +kernel
theorem dX10_followPhraseFrom_45 : decode cX10_followPhraseFrom 45 = .ok (.ifCond .eq 22, 3) := by decide +kernel
theorem dX10_followPhraseFrom_48 : decode cX10_followPhraseFrom 48 = .ok (.aload_n 0, 1) := by decide +kernel
theorem dX10_followPhraseFrom_49 : decode cX10_followPhraseFrom 49 = .ok (.getfield 72, 3) := by decide +kernel
theorem dX10_followPhraseFrom_52 : decode cX10_followPhraseFrom 52 = .ok (.aload_n 0, 1) := by decide +kernel
theorem dX10_followPhraseFrom_53 : decode cX10_followPhraseFrom 53 = .ok (.iload_n 3, 1) := by decide +kernel
theorem dX10_followPhraseFrom_54 : decode cX10_followPhraseFrom 54 = .ok (.invokevirtual 234, 3) := by decide +kernel
theorem dX10_followPhraseFrom_57 : decode cX10_followPhraseFrom 57 = .ok (.invokevirtual 266, 3) := by decide +kernel
theorem dX10_followPhraseFrom_60 : decode cX10_followPhraseFrom 60 = .ok (.ifCond .eq 7, 3) := by decide +kernel
theorem dX10_followPhraseFrom_63 : decode cX10_followPhraseFrom 63 = .ok (.iconst 1, 1) := by decide +kernel
theorem dX10_followPhraseFrom_64 : decode cX10_followPhraseFrom 64 = .ok (.goto 4, 3) := by decide +kernel
theorem dX10_followPhraseFrom_67 : decode cX10_followPhraseFrom 67 = .ok (.iconst 0, 1) := by decide +kernel
theorem dX10_followPhraseFrom_68 : decode cX10_followPhraseFrom 68 = .ok (.istore_n 2, 1) := by decide +kernel
theorem dX10_followPhraseFrom_69 : decode cX10_followPhraseFrom 69 = .ok (.iinc 3 1, 3) := by decide +kernel
theorem dX10_followPhraseFrom_72 : decode cX10_followPhraseFrom 72 = .ok (.goto (-61), 3) := by decide +kernel
theorem dX10_followPhraseFrom_75 : decode cX10_followPhraseFrom 75 = .ok (.return_, 1) := by decide +kernel
theorem dX11_init_0 : decode cX11_init 0 = .ok (.aload_n 0, 1) := by decide +kernel
theorem dX11_init_1 : decode cX11_init 1 = .ok (.invokespecial 1, 3) := by decide +kernel
theorem dX11_init_4 : decode cX11_init 4 = .ok (.aload_n 0, 1) := by decide +kernel
theorem dX11_init_5 : decode cX11_init 5 = .ok (.bipush 32, 2) := by decide +kernel
theorem dX11_init_7 : decode cX11_init 7 = .ok (.newarray .int, 2) := by decide +kernel
theorem dX11_init_9 : decode cX11_init 9 = .ok (.putfield 7, 3) := by decide +kernel
theorem dX11_init_12 : decode cX11_init 12 = .ok (.aload_n 0, 1) := by decide +kernel
theorem dX11_init_13 : decode cX11_init 13 = .ok (.bipush 20, 2) := by decide +kernel
theorem dX11_init_15 : decode cX11_init 15 = .ok (.newarray .int, 2) := by decide +kernel
theorem dX11_init_17 : decode cX11_init 17 = .ok (.putfield 13, 3) := by decide +kernel
theorem dX11_init_20 : decode cX11_init 20 = .ok (.aload_n 0, 1) := by decide +kernel
theorem dX11_init_21 : decode cX11_init 21 = .ok (.sipush 960, 3) := by decide +kernel
theorem dX11_init_24 : decode cX11_init 24 = .ok (.newarray .int, 2) := by decide +kernel
theorem dX11_init_26 : decode cX11_init 26 = .ok (.putfield 16, 3) := by decide +kernel
theorem dX11_init_29 : decode cX11_init 29 = .ok (.aload_n 0, 1) := by decide +kernel
theorem dX11_init_30 : decode cX11_init 30 = .ok (.bipush 48, 2) := by decide +kernel
theorem dX11_init_32 : decode cX11_init 32 = .ok (.newarray .int, 2) := by decide +kernel
theorem dX11_init_34 : decode cX11_init 34 = .ok (.putfield 19, 3) := by decide +kernel
theorem dX11_init_37 : decode cX11_init 37 = .ok (.aload_n 0, 1) := by decide +kernel
theorem dX11_init_38 : decode cX11_init 38 = .ok (.bipush 40, 2) := by decide +kernel
theorem dX11_init_40 : decode cX11_init 40 = .ok (.newarray .int, 2) := by decide +kernel
theorem dX11_init_42 : decode cX11_init 42 = .ok (.putfield 22, 3) := by decide +kernel
theorem dX11_init_45 : decode cX11_init 45 = .ok (.aload_n 0, 1) := by decide +kernel
theorem dX11_init_46 : decode cX11_init 46 = .ok (.bipush 40, 2) := by decide +kernel
theorem dX11_init_48 : decode cX11_init 48 = .ok (.newarray .int, 2) := by decide +kernel
theorem dX11_init_50 : decode cX11_init 50 = .ok (.putfield 25, 3) := by decide +kernel
theorem dX11_init_53 : decode cX11_init 53 = .ok (.aload_n 0, 1) := by decide +kernel
theorem dX11_init_54 : decode cX11_init 54 = .ok (.bipush 40, 2) := by decide +kernel
theorem dX11_init_56 : decode cX11_init 56 = .ok (.newarray .int, 2) := by decide +kernel
theorem dX11_init_58 : decode cX11_init 58 = .ok (.putfield 28, 3) := by decide +kernel
theorem dX11_init_61 : decode cX11_init 61 = .ok (.aload_n 0, 1) := by decide +kernel
theorem dX11_init_62 : decode cX11_init 62 = .ok (.bipush 40, 2) := by decide +kernel
theorem dX11_init_64 : decode cX11_init 64 = .ok (.newarray .int, 2) := by decide +kernel
theorem dX11_init_66 : decode cX11_init 66 = .ok (.putfield 31, 3) := by decide +kernel
theorem dX11_init_69 : decode cX11_init 69 = .ok (.aload_n 0, 1) := by decide +kernel
theorem dX11_init_70 : decode cX11_init 70 = .ok (.bipush 40, 2) := by decide +kernel
theorem dX11_init_72 : decode cX11_init 72 = .ok (.newarray .int, 2) := by decide +kernel
theorem dX11_init_74 : decode cX11_init 74 = .ok (.putfield 34, 3) := by decide +kernel
theorem dX11_init_77 : decode cX11_init 77 = .ok (.aload_n 0, 1) := by decide +kernel
theorem dX11_init_78 : decode cX11_init 78 = .ok (.bipush 8, 2) := by decide +kernel
theorem dX11_init_80 : decode cX11_init 80 = .ok (.newarray .int, 2) := by decide +kernel
theorem dX11_init_82 : decode cX11_init 82 = .ok (.putfield 37, 3) := by decide +kernel
theorem dX11_init_85 : decode cX11_init 85 = .ok (.aload_n 0, 1) := by decide +kernel
theorem dX11_init_86 : decode cX11_init 86 = .ok (.bipush 8, 2) := by decide +kernel
theorem dX11_init_88 : decode cX11_init 88 = .ok (.newarray .int, 2) := by decide +kernel
theorem dX11_init_90 : decode cX11_init 90 = .ok (.putfield 40, 3) := by decide +kernel
theorem dX11_init_93 : decode cX11_init 93 = .ok (.aload_n 0, 1) := by decide +kernel
theorem dX11_init_94 : decode cX11_init 94 = .ok (.bipush 80, 2) := by decide +kernel
theorem dX11_init_96 : decode cX11_init 96 = .ok (.newarray .int, 2) := by decide +kernel
theorem dX11_init_98 : decode cX11_init 98 = .ok (.putfield 43, 3) := by decide +kernel
theorem dX11_init_101 : decode cX11_init 101 = .ok (.aload_n 0, 1) := by decide +kernel
theorem dX11_init_102 : decode cX11_init 102 = .ok (.bipush 24, 2) := by decide +kernel
theorem dX11_init_104 : decode cX11_init 104 = .ok (.newarray .int, 2) := by decide +kernel
theorem dX11_init_106 : decode cX11_init 106 = .ok (.putfield 46, 3) := by decide +kernel
theorem dX11_init_109 : decode cX11_init 109 = .ok (.aload_n 0, 1) := by decide +kernel
theorem dX11_init_110 : decode cX11_init 110 = .ok (.bipush 24, 2) := by decide +kernel
theorem dX11_init_112 : decode cX11_init 112 = .ok (.newarray .int, 2) := by decide +kernel
theorem dX11_init_114 : decode cX11_init 114 = .ok (.putfield 49, 3) := by decide +kernel
theorem dX11_init_117 : decode cX11_init 117 = .ok (.aload_n 0, 1) := by decide +kernel
theorem dX11_init_118 : decode cX11_init 118 = .ok (.bipush 24, 2) := by decide +kernel
theorem dX11_init_120 : decode cX11_init 120 = .ok (.newarray .int, 2) := by decide +kernel
theorem dX11_init_122 : decode cX11_init 122 = .ok (.putfield 52, 3) := by decide +kernel
theorem dX11_init_125 : decode cX11_init 125 = .ok (.aload_n 0, 1) := by decide +kernel
theorem dX11_init_126 : decode cX11_init 126 = .ok (.bipush 24, 2) := by decide +kernel
theorem dX11_init_128 : decode cX11_init 128 = .ok (.newarray .int, 2) := by decide +kernel
theorem dX11_init_130 : decode cX11_init 130 = .ok (.putfield 55, 3) := by decide +kernel
theorem dX11_init_133 : decode cX11_init 133 = .ok (.aload_n 0, 1) := by decide +kernel
theorem dX11_init_134 : decode cX11_init 134 = .ok (.bipush 24, 2) := by decide +kernel
theorem dX11_init_136 : decode cX11_init 136 = .ok (.newarray .int, 2) := by decide +kernel
theorem dX11_init_138 : decode cX11_init 138 = .ok (.putfield 58, 3) := by decide +kernel
theorem dX11_init_141 : decode cX11_init 141 = .ok (.aload_n 0, 1) := by decide +kernel
theorem dX11_init_142 : decode cX11_init 142 = .ok (.bipush 24, 2) := by decide +kernel
theorem dX11_init_144 : decode cX11_init 144 = .ok (.newarray .int, 2) := by decide +kernel
theorem dX11_init_146 : decode cX11_init 146 = .ok (.putfield 61, 3) := by decide +kernel
theorem dX11_init_149 : decode cX11_init 149 = .ok (.aload_n 0, 1) := by decide +kernel
theorem dX11_init_150 : decode cX11_init 150 = .ok (.bipush 24, 2) := by decide +kernel
theorem dX11_init_152 : decode cX11_init 152 = .ok (.newarray .int, 2) := by decide +kernel
theorem dX11_init_154 : decode cX11_init 154 = .ok (.putfield 64, 3) := by decide +kernel
theorem dX11_init_157 : decode cX11_init 157 = .ok (.aload_n 0, 1) := by decide +kernel
theorem dX11_init_158 : decode cX11_init 158 = .ok (.bipush 24, 2) := by decide +kernel
theorem dX11_init_160 : decode cX11_init 160 = .ok (.newarray .int, 2) := by decide +kernel
theorem dX11_init_162 : decode cX11_init 162 = .ok (.putfield 67, 3) := by decide +kernel
theorem dX11_init_165 : decode cX11_init 165 = .ok (.aload_n 0, 1) := by decide +kernel
theorem dX11_init_166 : decode cX11_init 166 = .ok (.bipush 80, 2) := by decide +kernel
theorem dX11_init_168 : decode cX11_init 168 = .ok (.newarray .int, 2) := by decide +kernel
theorem dX11_init_170 : decode cX11_init 170 = .ok (.putfield 70, 3) := by decide +kernel
theorem dX11_init_173 : decode cX11_init 173 = .ok (.aload_n 0, 1) := by decide +kernel
theorem dX11_init_174 : decode cX11_init 174 = .ok (.bipush 60, 2) := by decide +kernel
theorem dX11_init_176 : decode cX11_init 176 = .ok (.newarray .int, 2) := by decide +kernel
theorem dX11_init_178 : decode cX11_init 178 = .ok (.putfield 73, 3) := by decide +kernel
theorem dX11_init_181 : decode cX11_init 181 = .ok (.aload_n 0, 1) := by decide +kernel
theorem dX11_init_182 : decode cX11_init 182 = .ok (.bipush 60, 2) := by decide +kernel
theorem dX11_init_184 : decode cX11_init 184 = .ok (.newarray .int, 2) := by decide +kernel
theorem dX11_init_186 : decode cX11_init 186 = .ok (.putfield 76, 3) := by decide +kernel
theorem dX11_init_189 : decode cX11_init 189 = .ok (.aload_n 0, 1) := by decide +kernel
theorem dX11_init_190 : decode cX11_init 190 = .ok (.bipush 60, 2) := by decide +kernel
theorem dX11_init_192 : decode cX11_init 192 = .ok (.newarray .int, 2) := by decide +kernel
theorem dX11_init_194 : decode cX11_init 194 = .ok (.putfield 79, 3) := by decide +kernel
theorem dX11_init_197 : decode cX11_init 197 = .ok (.aload_n 0, 1) := by decide +kernel
theorem dX11_init_198 : decode cX11_init 198 = .ok (.iload_n 1, 1) := by decide +kernel
theorem dX11_init_199 : decode cX11_init 199 = .ok (.iconst 1, 1) := by decide +kernel
theorem dX11_init_200 : decode cX11_init 200 = .ok (.if_icmp .ge 7, 3) := by decide +kernel
theorem dX11_init_203 : decode cX11_init 203 = .ok (.iconst 1, 1) := by decide +kernel
theorem dX11_init_204 : decode cX11_init 204 = .ok (.goto 15, 3) := by decide +kernel
theorem dX11_init_207 : decode cX11_init 207 = .ok (.iload_n 1, 1) := by decide +kernel
theorem dX11_init_208 : decode cX11_init 208 = .ok (.bipush 12, 2) := by decide +kernel
theorem dX11_init_210 : decode cX11_init 210 = .ok (.if_icmp .le 8, 3) := by decide +kernel
theorem dX11_init_213 : decode cX11_init 213 = .ok (.bipush 12, 2) := by decide +kernel
theorem dX11_init_215 : decode cX11_init 215 = .ok (.goto 4, 3) := by decide +kernel
theorem dX11_init_218 : decode cX11_init 218 = .ok (.iload_n 1, 1) := by decide +kernel
theorem dX11_init_219 : decode cX11_init 219 = .ok (.putfield 82, 3) := by decide +kernel
theorem dX11_init_222 : decode cX11_init 222 = .ok (.iconst 0, 1) := by decide +kernel
theorem dX11_init_223 : decode cX11_init 223 = .ok (.istore_n 2, 1) := by decide +kernel
theorem dX11_init_224 : decode cX11_init 224 = .ok (.iload_n 2, 1) := by decide +kernel
theorem dX11_init_225 : decode cX11_init 225 = .ok (.bipush 32, 2) := by decide +kernel
theorem dX11_init_227 : decode cX11_init 227 = .ok (.if_icmp .ge 20, 3) := by decide +kernel
theorem dX11_init_230 : decode cX11_init 230 = .ok (.aload_n 0, 1) := by decide +kernel
theorem dX11_init_231 : decode cX11_init 231 = .ok (.getfield 7, 3) := by decide +kernel
theorem dX11_init_234 : decode cX11_init 234 = .ok (.iload_n 2, 1) := by decide +kernel
theorem dX11_init_235 : decode cX11_init 235 = .ok (.sipush 128, 3) := by decide +kernel
theorem dX11_init_238 : decode cX11_init 238 = .ok (.iload_n 2, 1) := by decide +kernel
theorem dX11_init_239 : decode cX11_init 239 = .ok (.iadd, 1) := by decide +kernel
theorem dX11_init_240 : decode cX11_init 240 = .ok (.iastore, 1) := by decide +kernel
theorem dX11_init_241 : decode cX11_init 241 = .ok (.iinc 2 1, 3) := by decide +kernel
theorem dX11_init_244 : decode cX11_init 244 = .ok (.goto (-20), 3) := by decide +kernel
theorem dX11_init_247 : decode cX11_init 247 = .ok (.return_, 1) := by decide +kernel
theorem dX11_in_0 : decode cX11_in 0 = .ok (.iload_n 0, 1) := by decide +kernel
theorem dX11_in_1 : decode cX11_in 1 = .ok (.iload_n 1, 1) := by decide +kernel
theorem dX11_in_2 : decode cX11_in 2 = .ok (.if_icmp .lt 12, 3) := by decide +kernel
theorem dX11_in_5 : decode cX11_in 5 = .ok (.iload_n 0, 1) := by decide +kernel
theorem dX11_in_6 : decode cX11_in 6 = .ok (.iload_n 2, 1) := by decide +kernel
theorem dX11_in_7 : decode cX11_in 7 = .ok (.if_icmp .gt 7, 3) := by decide +kernel
theorem dX11_in_10 : decode cX11_in 10 = .ok (.iconst 1, 1) := by decide +kernel
theorem dX11_in_11 : decode cX11_in 11 = .ok (.goto 4, 3) := by decide +kernel
theorem dX11_in_14 : decode cX11_in 14 = .ok (.iconst 0, 1) := by decide +kernel
theorem dX11_in_15 : decode cX11_in 15 = .ok (.ireturn, 1) := by decide +kernel
set_option maxRecDepth 20000 in
theorem ggX11_isLetter_X11_in : GoodIn wsX11_isLetter wsX11_in := goodIn_r _ [4] (by decide +kernel) (by decide +kernel)
set_option maxRecDepth 20000 in
theorem gX11_isLetter_X11_in : GoodIn wsX11_isLetter (va_wsS RX11 86 yX11_in wsX11_in) := goodIn_app (goodIn_of _ (by decide +kernel)) ggX11_isLetter_X11_in
theorem dX11_isLetter_0 : decode cX11_isLetter 0 = .ok (.iload_n 0, 1) := by decide +kernel
theorem dX11_isLetter_1 : decode cX11_isLetter 1 = .ok (.bipush 65, 2) := by decide +kernel
theorem dX11_isLetter_3 : decode cX11_isLetter 3 = .ok (.bipush 90, 2) := by decide +kernel
theorem dX11_isLetter_5 : decode cX11_isLetter 5 = .ok (.invokestatic 86, 3) := by decide +kernel
theorem dX11_isLetter_8 : decode cX11_isLetter 8 = .ok (.ifCond .ne 27, 3) := by decide +kernel
theorem dX11_isLetter_11 : decode cX11_isLetter 11 = .ok (.iload_n 0, 1) := by decide +kernel
theorem dX11_isLetter_12 : decode cX11_isLetter 12 = .ok (.bipush 97, 2) := by decide +kernel
theorem dX11_isLetter_14 : decode cX11_isLetter 14 = .ok (.bipush 122, 2) := by decide +kernel
theorem dX11_isLetter_16 : decode cX11_isLetter 16 = .ok (.invokestatic 86, 3) := by decide +kernel
theorem dX11_isLetter_19 : decode cX11_isLetter 19 = .ok (.ifCond .ne 16, 3) := by decide +kernel
theorem dX11_isLetter_22 : decode cX11_isLetter 22 = .ok (.iload_n 0, 1) := by decide +kernel
theorem dX11_isLetter_23 : decode cX11_isLetter 23 = .ok (.sipush 128, 3) := by decide +kernel
theorem dX11_isLetter_26 : decode cX11_isLetter 26 = .ok (.sipush 159, 3) := by decide +kernel
theorem dX11_isLetter_29 : decode cX11_isLetter 29 = .ok (.invokestatic 86, 3) := by decide +kernel
theorem dX11_isLetter_32 : decode cX11_isLetter 32 = .ok (.ifCond .eq 7, 3) := by decide +kernel
theorem dX11_isLetter_35 : decode cX11_isLetter 35 = .ok (.iconst 1, 1) := by decide +kernel
theorem dX11_isLetter_36 : decode cX11_isLetter 36 = .ok (.goto 4, 3) := by decide +kernel
theorem dX11_isLetter_39 : decode cX11_isLetter 39 = .ok (.iconst 0, 1) := by decide +kernel
theorem dX11_isLetter_40 : decode cX11_isLetter 40 = .ok (.ireturn, 1) := by decide +kernel
set_option maxRecDepth 20000 in
theorem ggX11_isDigit_X11_in : GoodIn wsX11_isDigit wsX11_in := goodIn_r _ [4] (by decide +kernel) (by decide +kernel)
set_option maxRecDepth 20000 in
theorem gX11_isDigit_X11_in : GoodIn wsX11_isDigit (va_wsS RX11 86 yX11_in wsX11_in) := goodIn_app (goodIn_of _ (by decide +kernel)) ggX11_isDigit_X11_in
theorem dX11_isDigit_0 : decode cX11_isDigit 0 = .ok (.iload_n 0, 1) := by decide +kernel
theorem dX11_isDigit_1 : decode cX11_isDigit 1 = .ok (.bipush 48, 2) := by decide +kernel
theorem dX11_isDigit_3 : decode cX11_isDigit 3 = .ok (.bipush 57, 2) := by decide +kernel
theorem dX11_isDigit_5 : decode cX11_isDigit 5 = .ok (.invokestatic 86, 3) := by decide +kernel
theorem dX11_isDigit_8 : decode cX11_isDigit 8 = .ok (.ireturn, 1) := by decide +kernel
set_option maxRecDepth 20000 in
theorem ggX11_folded_X11_in : GoodIn wsX11_folded wsX11_in := goodIn_r _ [5] (by decide +kernel) (by decide +kernel)
set_option maxRecDepth 20000 in
theorem gX11_folded_X11_in : GoodIn wsX11_folded (va_wsS RX11 86 yX11_in wsX11_in) := goodIn_app (goodIn_of _ (by decide +kernel)) ggX11_folded_X11_in
theorem dX11_folded_0 : decode cX11_folded 0 = .ok (.iload_n 1, 1) := by decide +kernel
theorem dX11_folded_1 : decode cX11_folded 1 = .ok (.bipush 65, 2) := by decide +kernel
theorem dX11_folded_3 : decode cX11_folded 3 = .ok (.bipush 90, 2) := by decide +kernel
theorem dX11_folded_5 : decode cX11_folded 5 = .ok (.invokestatic 86, 3) := by decide +kernel
theorem dX11_folded_8 : decode cX11_folded 8 = .ok (.ifCond .eq 10, 3) := by decide +kernel
theorem dX11_folded_11 : decode cX11_folded 11 = .ok (.iload_n 1, 1) := by decide +kernel
theorem dX11_folded_12 : decode cX11_folded 12 = .ok (.bipush 32, 2) := by decide +kernel
theorem dX11_folded_14 : decode cX11_folded 14 = .ok (.iadd, 1) := by decide +kernel
theorem dX11_folded_15 : decode cX11_folded 15 = .ok (.goto 23, 3) := by decide +kernel
theorem dX11_folded_18 : decode cX11_folded 18 = .ok (.iload_n 1, 1) := by decide +kernel
theorem dX11_folded_19 : decode cX11_folded 19 = .ok (.bipush 127, 2) := by decide +kernel
theorem dX11_folded_21 : decode cX11_folded 21 = .ok (.if_icmp .le 16, 3) := by decide +kernel
theorem dX11_folded_24 : decode cX11_folded 24 = .ok (.aload_n 0, 1) := by decide +kernel
theorem dX11_folded_25 : decode cX11_folded 25 = .ok (.getfield 7, 3) := by decide +kernel
theorem dX11_folded_28 : decode cX11_folded 28 = .ok (.iload_n 1, 1) := by decide +kernel
theorem dX11_folded_29 : decode cX11_folded 29 = .ok (.sipush 128, 3) := by decide +kernel
theorem dX11_folded_32 : decode cX11_folded 32 = .ok (.isub, 1) := by decide +kernel
theorem dX11_folded_33 : decode cX11_folded 33 = .ok (.iaload, 1) := by decide +kernel
theorem dX11_folded_34 : decode cX11_folded 34 = .ok (.goto 4, 3) := by decide +kernel
theorem dX11_folded_37 : decode cX11_folded 37 = .ok (.iload_n 1, 1) := by decide +kernel
theorem dX11_folded_38 : decode cX11_folded 38 = .ok (.ireturn, 1) := by decide +kernel
set_option maxRecDepth 20000 in
theorem ggX11_isWord_X11_in : GoodIn wsX11_isWord wsX11_in := goodIn_r _ [5] (by decide +kernel) (by decide +kernel)
set_option maxRecDepth 20000 in
theorem gX11_isWord_X11_in : GoodIn wsX11_isWord (va_wsS RX11 86 yX11_in wsX11_in) := goodIn_app (goodIn_of _ (by decide +kernel)) ggX11_isWord_X11_in
theorem dX11_isWord_0 : decode cX11_isWord 0 = .ok (.iload_n 1, 1) := by decide +kernel
theorem dX11_isWord_1 : decode cX11_isWord 1 = .ok (.iconst 0, 1) := by decide +kernel
theorem dX11_isWord_2 : decode cX11_isWord 2 = .ok (.aload_n 0, 1) := by decide +kernel
theorem dX11_isWord_3 : decode cX11_isWord 3 = .ok (.getfield 90, 3) := by decide +kernel
theorem dX11_isWord_6 : decode cX11_isWord 6 = .ok (.iconst 1, 1) := by decide +kernel
theorem dX11_isWord_7 : decode cX11_isWord 7 = .ok (.isub, 1) := by decide +kernel
theorem dX11_isWord_8 : decode cX11_isWord 8 = .ok (.invokestatic 86, 3) := by decide +kernel
theorem dX11_isWord_11 : decode cX11_isWord 11 = .ok (.ireturn, 1) := by decide +kernel
set_option maxRecDepth 20000 in
theorem ggX11_fold_X11_in : GoodIn wsX11_fold wsX11_in := goodIn_r _ [7] (by decide +kernel) (by decide +kernel)
set_option maxRecDepth 20000 in
theorem gX11_fold_X11_in : GoodIn wsX11_fold (va_wsS RX11 86 yX11_in wsX11_in) := goodIn_app (goodIn_of _ (by decide +kernel)) ggX11_fold_X11_in
theorem dX11_fold_0 : decode cX11_fold 0 = .ok (.iload_n 1, 1) := by decide +kernel
theorem dX11_fold_1 : decode cX11_fold 1 = .ok (.sipush 128, 3) := by decide +kernel
theorem dX11_fold_4 : decode cX11_fold 4 = .ok (.sipush 159, 3) := by decide +kernel
theorem dX11_fold_7 : decode cX11_fold 7 = .ok (.invokestatic 86, 3) := by decide +kernel
theorem dX11_fold_10 : decode cX11_fold 10 = .ok (.ifCond .eq 14, 3) := by decide +kernel
theorem dX11_fold_13 : decode cX11_fold 13 = .ok (.iload_n 2, 1) := by decide +kernel
theorem dX11_fold_14 : decode cX11_fold 14 = .ok (.bipush 97, 2) := by decide +kernel
theorem dX11_fold_16 : decode cX11_fold 16 = .ok (.bipush 122, 2) := by decide +kernel
theorem dX11_fold_18 : decode cX11_fold 18 = .ok (.invokestatic 86, 3) := by decide +kernel
theorem dX11_fold_21 : decode cX11_fold 21 = .ok (.ifCond .ne 6, 3) := by decide +kernel
theorem dX11_fold_24 : decode cX11_fold 24 = .ok (.bipush (-3), 2) := by decide +kernel
theorem dX11_fold_26 : decode cX11_fold 26 = .ok (.ireturn, 1) := by decide +kernel
theorem dX11_fold_27 : decode cX11_fold 27 = .ok (.aload_n 0, 1) := by decide +kernel
theorem dX11_fold_28 : decode cX11_fold 28 = .ok (.getfield 90, 3) := by decide +kernel
theorem dX11_fold_31 : decode cX11_fold 31 = .ok (.ifCond .gt 10, 3) := by decide +kernel
theorem dX11_fold_34 : decode cX11_fold 34 = .ok (.aload_n 0, 1) := by decide +kernel
theorem dX11_fold_35 : decode cX11_fold 35 = .ok (.getfield 93, 3) := by decide +kernel
theorem dX11_fold_38 : decode cX11_fold 38 = .ok (.ifCond .le 6, 3) := by decide +kernel
theorem dX11_fold_41 : decode cX11_fold 41 = .ok (.bipush (-4), 2) := by decide +kernel
theorem dX11_fold_43 : decode cX11_fold 43 = .ok (.ireturn, 1) := by decide +kernel
theorem dX11_fold_44 : decode cX11_fold 44 = .ok (.aload_n 0, 1) := by decide +kernel
theorem dX11_fold_45 : decode cX11_fold 45 = .ok (.getfield 7, 3) := by decide +kernel
theorem dX11_fold_48 : decode cX11_fold 48 = .ok (.iload_n 1, 1) := by decide +kernel
theorem dX11_fold_49 : decode cX11_fold 49 = .ok (.sipush 128, 3) := by decide +kernel
theorem dX11_fold_52 : decode cX11_fold 52 = .ok (.isub, 1) := by decide +kernel
theorem dX11_fold_53 : decode cX11_fold 53 = .ok (.iaload, 1) := by decide +kernel
theorem dX11_fold_54 : decode cX11_fold 54 = .ok (.istore_n 3, 1) := by decide +kernel
theorem dX11_fold_55 : decode cX11_fold 55 = .ok (.aload_n 0, 1) := by decide +kernel
theorem dX11_fold_56 : decode cX11_fold 56 = .ok (.getfield 7, 3) := by decide +kernel
theorem dX11_fold_59 : decode cX11_fold 59 = .ok (.iload_n 1, 1) := by decide +kernel
theorem dX11_fold_60 : decode cX11_fold 60 = .ok (.sipush 128, 3) := by decide +kernel
theorem dX11_fold_63 : decode cX11_fold 63 = .ok (.isub, 1) := by decide +kernel
theorem dX11_fold_64 : decode cX11_fold 64 = .ok (.iload_n 2, 1) := by decide +kernel
theorem dX11_fold_65 : decode cX11_fold 65 = .ok (.iastore, 1) := by decide +kernel
theorem dX11_fold_66 : decode cX11_fold 66 = .ok (.iload_n 3, 1) := by decide +kernel
theorem dX11_fold_67 : decode cX11_fold 67 = .ok (.ireturn, 1) := by decide +kernel
set_option maxRecDepth 20000 in
theorem ggX11_letter_X11_isLetter : GoodIn wsX11_letter wsX11_isLetter := goodIn_r _ [6, 7, 8, 5, 9] (by decide +kernel) (by decide +kernel)
set_option maxRecDepth 20000 in
theorem gX11_letter_X11_isLetter : GoodIn wsX11_letter (va_wsS RX11 96 yX11_isLetter wsX11_isLetter) := goodIn_app (goodIn_of _ (by decide +kernel)) ggX11_letter_X11_isLetter
theorem dX11_letter_0 : decode cX11_letter 0 = .ok (.iload_n 1, 1) := by decide +kernel
theorem dX11_letter_1 : decode cX11_letter 1 = .ok (.invokestatic 96, 3) := by decide +kernel
theorem dX11_letter_4 : decode cX11_letter 4 = .ok (.ifCond .ne 6, 3) := by decide +kernel
theorem dX11_letter_7 : decode cX11_letter 7 = .ok (.bipush (-3), 2) := by decide +kernel
theorem dX11_letter_9 : decode cX11_letter 9 = .ok (.ireturn, 1) := by decide +kernel
theorem dX11_letter_10 : decode cX11_letter 10 = .ok (.aload_n 0, 1) := by decide +kernel
theorem dX11_letter_11 : decode cX11_letter 11 = .ok (.getfield 100, 3) := by decide +kernel
theorem dX11_letter_14 : decode cX11_letter 14 = .ok (.bipush 20, 2) := by decide +kernel
theorem dX11_letter_16 : decode cX11_letter 16 = .ok (.if_icmp .ne 6, 3) := by decide +kernel
theorem dX11_letter_19 : decode cX11_letter 19 = .ok (.bipush (-5), 2) := by decide +kernel
theorem dX11_letter_21 : decode cX11_letter 21 = .ok (.ireturn, 1) := by decide +kernel
theorem dX11_letter_22 : decode cX11_letter 22 = .ok (.aload_n 0, 1) := by decide +kernel
theorem dX11_letter_23 : decode cX11_letter 23 = .ok (.getfield 13, 3) := by decide +kernel
theorem dX11_letter_26 : decode cX11_letter 26 = .ok (.aload_n 0, 1) := by decide +kernel
theorem dX11_letter_27 : decode cX11_letter 27 = .ok (.getfield 100, 3) := by decide +kernel
theorem dX11_letter_30 : decode cX11_letter 30 = .ok (.iload_n 1, 1) := by decide +kernel
theorem dX11_letter_31 : decode cX11_letter 31 = .ok (.iastore, 1) := by decide +kernel
theorem dX11_letter_32 : decode cX11_letter 32 = .ok (.aload_n 0, 1) := by decide +kernel
theorem dX11_letter_33 : decode cX11_letter 33 = .ok (.dup, 1) := by decide +kernel
theorem dX11_letter_34 : decode cX11_letter 34 = .ok (.getfield 100, 3) := by decide +kernel
theorem dX11_letter_37 : decode cX11_letter 37 = .ok (.iconst 1, 1) := by decide +kernel
theorem dX11_letter_38 : decode cX11_letter 38 = .ok (.iadd, 1) := by decide +kernel
theorem dX11_letter_39 : decode cX11_letter 39 = .ok (.putfield 100, 3) := by decide +kernel
theorem dX11_letter_42 : decode cX11_letter 42 = .ok (.aload_n 0, 1) := by decide +kernel
theorem dX11_letter_43 : decode cX11_letter 43 = .ok (.getfield 100, 3) := by decide +kernel
theorem dX11_letter_46 : decode cX11_letter 46 = .ok (.ireturn, 1) := by decide +kernel
set_option maxRecDepth 20000 in
theorem ggX11_isLike_X11_folded : GoodIn wsX11_isLike wsX11_folded := goodIn_r _ [8, 9, 10, 11, 7, 12, 13, 14, 15, 16, 17, 18, 19, 20, 21, 22, 23, 24, 25, 26, 27, 28, 29, 30, 31, 32, 33, 34, 35, 36, 37, 38, 39, 40, 41, 42, 43, 44, 45, 46, 47, 48, 49] (by decide +kernel) (by decide +kernel)
set_option maxRecDepth 20000 in
theorem gX11_isLike_X11_folded : GoodIn wsX11_isLike (wsV RX11 103 RX11 yX11_folded wsX11_folded) := goodIn_app (goodIn_of _ (by decide +kernel)) ggX11_isLike_X11_folded
theorem dX11_isLike_0 : decode cX11_isLike 0 = .ok (.iload_n 3, 1) := by decide +kernel
theorem dX11_isLike_1 : decode cX11_isLike 1 = .ok (.aload_n 0, 1) := by decide +kernel
theorem dX11_isLike_2 : decode cX11_isLike 2 = .ok (.getfield 82, 3) := by decide +kernel
theorem dX11_isLike_5 : decode cX11_isLike 5 = .ok (.if_icmp .ge 7, 3) := by decide +kernel
theorem dX11_isLike_8 : decode cX11_isLike 8 = .ok (.iload_n 3, 1) := by decide +kernel
theorem dX11_isLike_9 : decode cX11_isLike 9 = .ok (.goto 7, 3) := by decide +kernel
theorem dX11_isLike_12 : decode cX11_isLike 12 = .ok (.aload_n 0, 1) := by decide +kernel
theorem dX11_isLike_13 : decode cX11_isLike 13 = .ok (.getfield 82, 3) := by decide +kernel
theorem dX11_isLike_16 : decode cX11_isLike 16 = .ok (.istore 5, 2) := by decide +kernel
theorem dX11_isLike_18 : decode cX11_isLike 18 = .ok (.aload_n 0, 1) := by decide +kernel
theorem dX11_isLike_19 : decode cX11_isLike 19 = .ok (.getfield 19, 3) := by decide +kernel
theorem dX11_isLike_22 : decode cX11_isLike 22 = .ok (.iload 4, 2) := by decide +kernel
theorem dX11_isLike_24 : decode cX11_isLike 24 = .ok (.iaload, 1) := by decide +kernel
theorem dX11_isLike_25 : decode cX11_isLike 25 = .ok (.aload_n 0, 1) := by decide +kernel
theorem dX11_isLike_26 : decode cX11_isLike 26 = .ok (.getfield 82, 3) := by decide +kernel
theorem dX11_isLike_29 : decode cX11_isLike 29 = .ok (.if_icmp .ge 13, 3) := by decide +kernel
theorem dX11_isLike_32 : decode cX11_isLike 32 = .ok (.aload_n 0, 1) := by decide +kernel
theorem dX11_isLike_33 : decode cX11_isLike 33 = .ok (.getfield 19, 3) := by decide +kernel
theorem dX11_isLike_36 : decode cX11_isLike 36 = .ok (.iload 4, 2) := by decide +kernel
theorem dX11_isLike_38 : decode cX11_isLike 38 = .ok (.iaload, 1) := by decide +kernel
theorem dX11_isLike_39 : decode cX11_isLike 39 = .ok (.goto 7, 3) := by decide +kernel
theorem dX11_isLike_42 : decode cX11_isLike 42 = .ok (.aload_n 0, 1) := by decide +kernel
theorem dX11_isLike_43 : decode cX11_isLike 43 = .ok (.getfield 82, 3) := by decide +kernel
theorem dX11_isLike_46 : decode cX11_isLike 46 = .ok (.istore 6, 2) := by decide +kernel
theorem dX11_isLike_48 : decode cX11_isLike 48 = .ok (.iload 5, 2) := by decide +kernel
theorem dX11_isLike_50 : decode cX11_isLike 50 = .ok (.iload 6, 2) := by decide +kernel
theorem dX11_isLike_52 : decode cX11_isLike 52 = .ok (.if_icmp .ne 7, 3) := by decide +kernel
theorem dX11_isLike_55 : decode cX11_isLike 55 = .ok (.iconst 1, 1) := by decide +kernel
theorem dX11_isLike_56 : decode cX11_isLike 56 = .ok (.goto 4, 3) := by decide +kernel
theorem dX11_isLike_59 : decode cX11_isLike 59 = .ok (.iconst 0, 1) := by decide +kernel
theorem dX11_isLike_60 : decode cX11_isLike 60 = .ok (.istore 7, 2) := by decide +kernel
theorem dX11_isLike_62 : decode cX11_isLike 62 = .ok (.iconst 0, 1) := by decide +kernel
theorem dX11_isLike_63 : decode cX11_isLike 63 = .ok (.istore 8, 2) := by decide +kernel
theorem dX11_isLike_65 : decode cX11_isLike 65 = .ok (.iload 8, 2) := by decide +kernel
theorem dX11_isLike_67 : decode cX11_isLike 67 = .ok (.iload 5, 2) := by decide +kernel
theorem dX11_isLike_69 : decode cX11_isLike 69 = .ok (.if_icmp .ge 51, 3) := by decide +kernel
theorem dX11_isLike_72 : decode cX11_isLike 72 = .ok (.iload 7, 2) := by decide +kernel
theorem dX11_isLike_74 : decode cX11_isLike 74 = .ok (.ifCond .eq 46, 3) := by decide +kernel
theorem dX11_isLike_77 : decode cX11_isLike 77 = .ok (.aload_n 0, 1) := by decide +kernel
theorem dX11_isLike_78 : decode cX11_isLike 78 = .ok (.aload_n 1, 1) := by decide +kernel
theorem dX11_isLike_79 : decode cX11_isLike 79 = .ok (.iload_n 2, 1) := by decide +kernel
theorem dX11_isLike_80 : decode cX11_isLike 80 = .ok (.iload 8, 2) := by decide +kernel
theorem dX11_isLike_82 : decode cX11_isLike 82 = .ok (.iadd, 1) := by decide +kernel
theorem dX11_isLike_83 : decode cX11_isLike 83 = .ok (.iaload, 1) := by decide +kernel
theorem dX11_isLike_84 : decode cX11_isLike 84 = .ok (.invokevirtual 103, 3) := by decide +kernel
theorem dX11_isLike_87 : decode cX11_isLike 87 = .ok (.aload_n 0, 1) := by decide +kernel
theorem dX11_isLike_88 : decode cX11_isLike 88 = .ok (.aload_n 0, 1) := by decide +kernel
theorem dX11_isLike_89 : decode cX11_isLike 89 = .ok (.getfield 16, 3) := by decide +kernel
theorem dX11_isLike_92 : decode cX11_isLike 92 = .ok (.bipush 20, 2) := by decide +kernel
theorem dX11_isLike_94 : decode cX11_isLike 94 = .ok (.iload 4, 2) := by decide +kernel
theorem dX11_isLike_96 : decode cX11_isLike 96 = .ok (.imul, 1) := by decide +kernel
theorem dX11_isLike_97 : decode cX11_isLike 97 = .ok (.iload 8, 2) := by decide +kernel
theorem dX11_isLike_99 : decode cX11_isLike 99 = .ok (.iadd, 1) := by decide +kernel
theorem dX11_isLike_100 : decode cX11_isLike 100 = .ok (.iaload, 1) := by decide +kernel
theorem dX11_isLike_101 : decode cX11_isLike 101 = .ok (.invokevirtual 103, 3) := by decide +kernel
theorem dX11_isLike_104 : decode cX11_isLike 104 = .ok (.if_icmp .ne 7, 3) := by decide +kernel
theorem dX11_isLike_107 : decode cX11_isLike 107 = .ok (.iconst 1, 1) := by decide +kernel
theorem dX11_isLike_108 : decode cX11_isLike 108 = .ok (.goto 4, 3) := by decide +kernel
theorem dX11_isLike_111 : decode cX11_isLike 111 = .ok (.iconst 0, 1) := by decide +kernel
theorem dX11_isLike_112 : decode cX11_isLike 112 = .ok (.istore 7, 2) := by decide +kernel
theorem dX11_isLike_114 : decode cX11_isLike 114 = .ok (.iinc 8 1, 3) := by decide +kernel
theorem dX11_isLike_117 : decode cX11_isLike 117 = .ok (.goto (-52), 3) := by decide +kernel
theorem dX11_isLike_120 : decode cX11_isLike 120 = .ok (.iload 7, 2) := by decide +kernel
theorem dX11_isLike_122 : decode cX11_isLike 122 = .ok (.ireturn, 1) := by decide +kernel
set_option maxRecDepth 20000 in
theorem ggX11_found_X11_isLike : GoodIn wsX11_found wsX11_isLike := goodIn_r _ [7, 8, 9, 10, 11, 12, 13, 6, 14, 15, 16, 17, 18, 19, 20, 21, 22, 23, 24, 25, 26, 27, 28, 29, 30, 31, 32, 33, 34, 35, 36, 37, 38, 39, 40, 41, 42, 43, 44, 45, 46, 47, 48, 49, 50, 51, 52, 53, 54, 55] (by decide +kernel) (by decide +kernel)
set_option maxRecDepth 20000 in
theorem gX11_found_X11_isLike : GoodIn wsX11_found (wsV RX11 107 RX11 yX11_isLike wsX11_isLike) := goodIn_app (goodIn_of _ (by decide +kernel)) ggX11_found_X11_isLike
theorem dX11_found_0 : decode cX11_found 0 = .ok (.iconst 0, 1) := by decide +kernel
theorem dX11_found_1 : decode cX11_found 1 = .ok (.istore 5, 2) := by decide +kernel
theorem dX11_found_3 : decode cX11_found 3 = .ok (.iload 5, 2) := by decide +kernel
theorem dX11_found_5 : decode cX11_found 5 = .ok (.aload_n 0, 1) := by decide +kernel
theorem dX11_found_6 : decode cX11_found 6 = .ok (.getfield 90, 3) := by decide +kernel
theorem dX11_found_9 : decode cX11_found 9 = .ok (.if_icmp .ge 36, 3) := by decide +kernel
theorem dX11_found_12 : decode cX11_found 12 = .ok (.aload_n 0, 1) := by decide +kernel
theorem dX11_found_13 : decode cX11_found 13 = .ok (.getfield 22, 3) := by decide +kernel
theorem dX11_found_16 : decode cX11_found 16 = .ok (.iload 5, 2) := by decide +kernel
theorem dX11_found_18 : decode cX11_found 18 = .ok (.iaload, 1) := by decide +kernel
theorem dX11_found_19 : decode cX11_found 19 = .ok (.iload 4, 2) := by decide +kernel
theorem dX11_found_21 : decode cX11_found 21 = .ok (.if_icmp .ne 18, 3) := by decide +kernel
theorem dX11_found_24 : decode cX11_found 24 = .ok (.aload_n 0, 1) := by decide +kernel
theorem dX11_found_25 : decode cX11_found 25 = .ok (.aload_n 1, 1) := by decide +kernel
theorem dX11_found_26 : decode cX11_found 26 = .ok (.iload_n 2, 1) := by decide +kernel
theorem dX11_found_27 : decode cX11_found 27 = .ok (.iload_n 3, 1) := by decide +kernel
theorem dX11_found_28 : decode cX11_found 28 = .ok (.iload 5, 2) := by decide +kernel
theorem dX11_found_30 : decode cX11_found 30 = .ok (.invokevirtual 107, 3) := by decide +kernel
theorem dX11_found_33 : decode cX11_found 33 = .ok (.ifCond .eq 6, 3) := by decide +kernel
theorem dX11_found_36 : decode cX11_found 36 = .ok (.iload 5, 2) := by decide +kernel
theorem dX11_found_38 : decode cX11_found 38 = .ok (.ireturn, 1) := by decide +kernel
theorem dX11_found_39 : decode cX11_found 39 = .ok (.iinc 5 1, 3) := by decide +kernel
theorem dX11_found_42 : decode cX11_found 42 = .ok (.goto (-39), 3) := by decide +kernel
theorem dX11_found_45 : decode cX11_found 45 = .ok (.iconst (-1), 1) := by decide +kernel
theorem dX11_found_46 : decode cX11_found 46 = .ok (.ireturn, 1) := by decide +kernel
theorem dX11_lay_0 : decode cX11_lay 0 = .ok (.iconst 0, 1) := by decide +kernel
theorem dX11_lay_1 : decode cX11_lay 1 = .ok (.istore_n 2, 1) := by decide +kernel
theorem dX11_lay_2 : decode cX11_lay 2 = .ok (.iload_n 2, 1) := by decide +kernel
theorem dX11_lay_3 : decode cX11_lay 3 = .ok (.aload_n 0, 1) := by decide +kernel
theorem dX11_lay_4 : decode cX11_lay 4 = .ok (.getfield 100, 3) := by decide +kernel
theorem dX11_lay_7 : decode cX11_lay 7 = .ok (.if_icmp .ge 26, 3) := by decide +kernel
theorem dX11_lay_10 : decode cX11_lay 10 = .ok (.aload_n 0, 1) := by decide +kernel
theorem dX11_lay_11 : decode cX11_lay 11 = .ok (.getfield 16, 3) := by decide +kernel
theorem dX11_lay_14 : decode cX11_lay 14 = .ok (.bipush 20, 2) := by decide +kernel
theorem dX11_lay_16 : decode cX11_lay 16 = .ok (.iload_n 1, 1) := by decide +kernel
theorem dX11_lay_17 : decode cX11_lay 17 = .ok (.imul, 1) := by decide +kernel
theorem dX11_lay_18 : decode cX11_lay 18 = .ok (.iload_n 2, 1) := by decide +kernel
theorem dX11_lay_19 : decode cX11_lay 19 = .ok (.iadd, 1) := by decide +kernel
theorem dX11_lay_20 : decode cX11_lay 20 = .ok (.aload_n 0, 1) := by decide +kernel
theorem dX11_lay_21 : decode cX11_lay 21 = .ok (.getfield 13, 3) := by decide +kernel
theorem dX11_lay_24 : decode cX11_lay 24 = .ok (.iload_n 2, 1) := by decide +kernel
theorem dX11_lay_25 : decode cX11_lay 25 = .ok (.iaload, 1) := by decide +kernel
theorem dX11_lay_26 : decode cX11_lay 26 = .ok (.iastore, 1) := by decide +kernel
theorem dX11_lay_27 : decode cX11_lay 27 = .ok (.iinc 2 1, 3) := by decide +kernel
theorem dX11_lay_30 : decode cX11_lay 30 = .ok (.goto (-28), 3) := by decide +kernel
theorem dX11_lay_33 : decode cX11_lay 33 = .ok (.aload_n 0, 1) := by decide +kernel
theorem dX11_lay_34 : decode cX11_lay 34 = .ok (.getfield 19, 3) := by decide +kernel
theorem dX11_lay_37 : decode cX11_lay 37 = .ok (.iload_n 1, 1) := by decide +kernel
theorem dX11_lay_38 : decode cX11_lay 38 = .ok (.aload_n 0, 1) := by decide +kernel
theorem dX11_lay_39 : decode cX11_lay 39 = .ok (.getfield 100, 3) := by decide +kernel
theorem dX11_lay_42 : decode cX11_lay 42 = .ok (.iastore, 1) := by decide +kernel
theorem dX11_lay_43 : decode cX11_lay 43 = .ok (.aload_n 0, 1) := by decide +kernel
theorem dX11_lay_44 : decode cX11_lay 44 = .ok (.iconst 0, 1) := by decide +kernel
theorem dX11_lay_45 : decode cX11_lay 45 = .ok (.putfield 100, 3) := by decide +kernel
theorem dX11_lay_48 : decode cX11_lay 48 = .ok (.return_, 1) := by decide +kernel
set_option maxRecDepth 20000 in
theorem ggX11_word_X11_in : GoodIn wsX11_word wsX11_in := goodIn_r _ [12] (by decide +kernel) (by decide +kernel)
set_option maxRecDepth 20000 in
theorem gX11_word_X11_in : GoodIn wsX11_word (va_wsS RX11 86 yX11_in wsX11_in) := goodIn_app (goodIn_of _ (by decide +kernel)) ggX11_word_X11_in
set_option maxRecDepth 20000 in
theorem ggX11_word_X11_found : GoodIn wsX11_word wsX11_found := goodIn_r _ [16, 4, 5, 17, 18, 19, 11, 20, 21, 22, 23, 24, 25, 26, 27, 28, 9, 10, 12, 33, 34, 35, 36, 37, 38, 39, 40, 41, 42, 43, 44, 45, 46, 47, 48, 49, 50, 51, 52, 53, 54, 55, 56, 57, 58, 59, 60, 61, 62, 63, 64, 65, 66, 67, 68, 69] (by decide +kernel) (by decide +kernel)
set_option maxRecDepth 20000 in
theorem gX11_word_X11_found : GoodIn wsX11_word (wsV RX11 111 RX11 yX11_found wsX11_found) := goodIn_app (goodIn_of _ (by decide +kernel)) ggX11_word_X11_found
set_option maxRecDepth 20000 in
theorem ggX11_word_X11_lay : GoodIn wsX11_word wsX11_lay := goodIn_r _ [32, 1, 23, 2, 22, 33, 34, 35, 36, 37, 38, 39, 40, 41, 42, 43, 44, 45, 46, 47, 48, 49, 50, 51, 52, 53, 54, 55, 56, 57, 58, 59, 60, 61, 62, 63, 64, 65, 66, 67, 68, 69] (by decide +kernel) (by decide +kernel)
set_option maxRecDepth 20000 in
theorem gX11_word_X11_lay : GoodIn wsX11_word (wsV RX11 115 RX11 yX11_lay wsX11_lay) := goodIn_app (goodIn_of _ (by decide +kernel)) ggX11_word_X11_lay
theorem dX11_word_0 : decode cX11_word 0 = .ok (.iload_n 1, 1) := by decide +kernel
theorem dX11_word_1 : decode cX11_word 1 = .ok (.iconst 0, 1) := by decide +kernel
theorem dX11_word_2 : decode cX11_word 2 = .ok (.iconst 2, 1) := by decide +kernel
theorem dX11_word_3 : decode cX11_word 3 = .ok (.invokestatic 86, 3) := by decide +kernel
theorem dX11_word_6 : decode cX11_word 6 = .ok (.ifCond .eq 13, 3) := by decide +kernel
theorem dX11_word_9 : decode cX11_word 9 = .ok (.iload_n 2, 1) := by decide +kernel
theorem dX11_word_10 : decode cX11_word 10 = .ok (.iconst 0, 1) := by decide +kernel
theorem dX11_word_11 : decode cX11_word 11 = .ok (.bipush 63, 2) := by decide +kernel
theorem dX11_word_13 : decode cX11_word 13 = .ok (.invokestatic 86, 3) := by decide +kernel
theorem dX11_word_16 : decode cX11_word 16 = .ok (.ifCond .ne 6, 3) := by decide +kernel
theorem dX11_word_19 : decode cX11_word 19 = .ok (.bipush (-3), 2) := by decide +kernel
theorem dX11_word_21 : decode cX11_word 21 = .ok (.ireturn, 1) := by decide +kernel
theorem dX11_word_22 : decode cX11_word 22 = .ok (.aload_n 0, 1) := by decide +kernel
theorem dX11_word_23 : decode cX11_word 23 = .ok (.getfield 100, 3) := by decide +kernel
theorem dX11_word_26 : decode cX11_word 26 = .ok (.ifCond .ne 6, 3) := by decide +kernel
theorem dX11_word_29 : decode cX11_word 29 = .ok (.bipush (-4), 2) := by decide +kernel
theorem dX11_word_31 : decode cX11_word 31 = .ok (.ireturn, 1) := by decide +kernel
theorem dX11_word_32 : decode cX11_word 32 = .ok (.aload_n 0, 1) := by decide +kernel
theorem dX11_word_33 : decode cX11_word 33 = .ok (.aload_n 0, 1) := by decide +kernel
theorem dX11_word_34 : decode cX11_word 34 = .ok (.getfield 13, 3) := by decide +kernel
theorem dX11_word_37 : decode cX11_word 37 = .ok (.iconst 0, 1) := by decide +kernel
theorem dX11_word_38 : decode cX11_word 38 = .ok (.aload_n 0, 1) := by decide +kernel
theorem dX11_word_39 : decode cX11_word 39 = .ok (.getfield 100, 3) := by decide +kernel
theorem dX11_word_42 : decode cX11_word 42 = .ok (.iload_n 1, 1) := by decide +kernel
theorem dX11_word_43 : decode cX11_word 43 = .ok (.invokevirtual 111, 3) := by decide +kernel
theorem dX11_word_46 : decode cX11_word 46 = .ok (.istore_n 3, 1) := by decide +kernel
theorem dX11_word_47 : decode cX11_word 47 = .ok (.iload_n 3, 1) := by decide +kernel
theorem dX11_word_48 : decode cX11_word 48 = .ok (.ifCond .lt 20, 3) := by decide +kernel
theorem dX11_word_51 : decode cX11_word 51 = .ok (.aload_n 0, 1) := by decide +kernel
theorem dX11_word_52 : decode cX11_word 52 = .ok (.getfield 25, 3) := by decide +kernel
theorem dX11_word_55 : decode cX11_word 55 = .ok (.iload_n 3, 1) := by decide +kernel
theorem dX11_word_56 : decode cX11_word 56 = .ok (.dup2, 1) := by decide +kernel
theorem dX11_word_57 : decode cX11_word 57 = .ok (.iaload, 1) := by decide +kernel
theorem dX11_word_58 : decode cX11_word 58 = .ok (.iload_n 2, 1) := by decide +kernel
theorem dX11_word_59 : decode cX11_word 59 = .ok (.ior, 1) := by decide +kernel
theorem dX11_word_60 : decode cX11_word 60 = .ok (.iastore, 1) := by decide +kernel
theorem dX11_word_61 : decode cX11_word 61 = .ok (.aload_n 0, 1) := by decide +kernel
theorem dX11_word_62 : decode cX11_word 62 = .ok (.iconst 0, 1) := by decide +kernel
theorem dX11_word_63 : decode cX11_word 63 = .ok (.putfield 100, 3) := by decide +kernel
theorem dX11_word_66 : decode cX11_word 66 = .ok (.iload_n 3, 1) := by decide +kernel
theorem dX11_word_67 : decode cX11_word 67 = .ok (.ireturn, 1) := by decide +kernel
theorem dX11_word_68 : decode cX11_word 68 = .ok (.aload_n 0, 1) := by decide +kernel
theorem dX11_word_69 : decode cX11_word 69 = .ok (.getfield 90, 3) := by decide +kernel
theorem dX11_word_72 : decode cX11_word 72 = .ok (.bipush 40, 2) := by decide +kernel
theorem dX11_word_74 : decode cX11_word 74 = .ok (.if_icmp .ne 6, 3) := by decide +kernel
theorem dX11_word_77 : decode cX11_word 77 = .ok (.bipush (-5), 2) := by decide +kernel
theorem dX11_word_79 : decode cX11_word 79 = .ok (.ireturn, 1) := by decide +kernel
theorem dX11_word_80 : decode cX11_word 80 = .ok (.aload_n 0, 1) := by decide +kernel
theorem dX11_word_81 : decode cX11_word 81 = .ok (.aload_n 0, 1) := by decide +kernel
theorem dX11_word_82 : decode cX11_word 82 = .ok (.getfield 90, 3) := by decide +kernel
theorem dX11_word_85 : decode cX11_word 85 = .ok (.invokevirtual 115, 3) := by decide +kernel
theorem dX11_word_88 : decode cX11_word 88 = .ok (.aload_n 0, 1) := by decide +kernel
theorem dX11_word_89 : decode cX11_word 89 = .ok (.getfield 22, 3) := by decide +kernel
theorem dX11_word_92 : decode cX11_word 92 = .ok (.aload_n 0, 1) := by decide +kernel
theorem dX11_word_93 : decode cX11_word 93 = .ok (.getfield 90, 3) := by decide +kernel
theorem dX11_word_96 : decode cX11_word 96 = .ok (.iload_n 1, 1) := by decide +kernel
theorem dX11_word_97 : decode cX11_word 97 = .ok (.iastore, 1) := by decide +kernel
theorem dX11_word_98 : decode cX11_word 98 = .ok (.aload_n 0, 1) := by decide +kernel
theorem dX11_word_99 : decode cX11_word 99 = .ok (.getfield 25, 3) := by decide +kernel
theorem dX11_word_102 : decode cX11_word 102 = .ok (.aload_n 0, 1) := by decide +kernel
theorem dX11_word_103 : decode cX11_word 103 = .ok (.getfield 90, 3) := by decide +kernel
theorem dX11_word_106 : decode cX11_word 106 = .ok (.iload_n 2, 1) := by decide +kernel
theorem dX11_word_107 : decode cX11_word 107 = .ok (.iastore, 1) := by decide +kernel
theorem dX11_word_108 : decode cX11_word 108 = .ok (.aload_n 0, 1) := by decide +kernel
theorem dX11_word_109 : decode cX11_word 109 = .ok (.getfield 28, 3) := by decide +kernel
theorem dX11_word_112 : decode cX11_word 112 = .ok (.aload_n 0, 1) := by decide +kernel
theorem dX11_word_113 : decode cX11_word 113 = .ok (.getfield 90, 3) := by decide +kernel
theorem dX11_word_116 : decode cX11_word 116 = .ok (.iconst 0, 1) := by decide +kernel
theorem dX11_word_117 : decode cX11_word 117 = .ok (.iastore, 1) := by decide +kernel
theorem dX11_word_118 : decode cX11_word 118 = .ok (.aload_n 0, 1) := by decide +kernel
theorem dX11_word_119 : decode cX11_word 119 = .ok (.getfield 31, 3) := by decide +kernel
theorem dX11_word_122 : decode cX11_word 122 = .ok (.aload_n 0, 1) := by decide +kernel
theorem dX11_word_123 : decode cX11_word 123 = .ok (.getfield 90, 3) := by decide +kernel
theorem dX11_word_126 : decode cX11_word 126 = .ok (.iconst (-1), 1) := by decide +kernel
theorem dX11_word_127 : decode cX11_word 127 = .ok (.iastore, 1) := by decide +kernel
theorem dX11_word_128 : decode cX11_word 128 = .ok (.aload_n 0, 1) := by decide +kernel
theorem dX11_word_129 : decode cX11_word 129 = .ok (.getfield 34, 3) := by decide +kernel
theorem dX11_word_132 : decode cX11_word 132 = .ok (.aload_n 0, 1) := by decide +kernel
theorem dX11_word_133 : decode cX11_word 133 = .ok (.getfield 90, 3) := by decide +kernel
theorem dX11_word_136 : decode cX11_word 136 = .ok (.iconst 0, 1) := by decide +kernel
theorem dX11_word_137 : decode cX11_word 137 = .ok (.iastore, 1) := by decide +kernel
theorem dX11_word_138 : decode cX11_word 138 = .ok (.aload_n 0, 1) := by decide +kernel
theorem dX11_word_139 : decode cX11_word 139 = .ok (.dup, 1) := by decide +kernel
theorem dX11_word_140 : decode cX11_word 140 = .ok (.getfield 90, 3) := by decide +kernel
theorem dX11_word_143 : decode cX11_word 143 = .ok (.iconst 1, 1) := by decide +kernel
theorem dX11_word_144 : decode cX11_word 144 = .ok (.iadd, 1) := by decide +kernel
theorem dX11_word_145 : decode cX11_word 145 = .ok (.putfield 90, 3) := by decide +kernel
theorem dX11_word_148 : decode cX11_word 148 = .ok (.aload_n 0, 1) := by decide +kernel
theorem dX11_word_149 : decode cX11_word 149 = .ok (.getfield 90, 3) := by decide +kernel
theorem dX11_word_152 : decode cX11_word 152 = .ok (.iconst 1, 1) := by decide +kernel
theorem dX11_word_153 : decode cX11_word 153 = .ok (.isub, 1) := by decide +kernel
theorem dX11_word_154 : decode cX11_word 154 = .ok (.ireturn, 1) := by decide +kernel
theorem dX11_isKind_0 : decode cX11_isKind 0 = .ok (.aload_n 0, 1) := by decide +kernel
theorem dX11_isKind_1 : decode cX11_isKind 1 = .ok (.getfield 25, 3) := by decide +kernel
theorem dX11_isKind_4 : decode cX11_isKind 4 = .ok (.iload_n 1, 1) := by decide +kernel
theorem dX11_isKind_5 : decode cX11_isKind 5 = .ok (.iaload, 1) := by decide +kernel
theorem dX11_isKind_6 : decode cX11_isKind 6 = .ok (.iload_n 2, 1) := by decide +kernel
theorem dX11_isKind_7 : decode cX11_isKind 7 = .ok (.ishr, 1) := by decide +kernel
theorem dX11_isKind_8 : decode cX11_isKind 8 = .ok (.iconst 1, 1) := by decide +kernel
theorem dX11_isKind_9 : decode cX11_isKind 9 = .ok (.iand, 1) := by decide +kernel
theorem dX11_isKind_10 : decode cX11_isKind 10 = .ok (.iconst 1, 1) := by decide +kernel
theorem dX11_isKind_11 : decode cX11_isKind 11 = .ok (.if_icmp .ne 7, 3) := by decide +kernel
theorem dX11_isKind_14 : decode cX11_isKind 14 = .ok (.iconst 1, 1) := by decide +kernel
theorem dX11_isKind_15 : decode cX11_isKind 15 = .ok (.goto 4, 3) := by decide +kernel
theorem dX11_isKind_18 : decode cX11_isKind 18 = .ok (.iconst 0, 1) := by decide +kernel
theorem dX11_isKind_19 : decode cX11_isKind 19 = .ok (.ireturn, 1) := by decide +kernel
set_option maxRecDepth 20000 in
theorem ggX11_value_X11_isWord : GoodIn wsX11_value wsX11_isWord := goodIn_r _ [6, 7, 8, 9, 5, 10, 16, 17, 18, 19, 20, 21, 22, 23, 24, 25, 26, 27, 28, 29, 30, 31, 32, 33, 34, 35, 36, 37, 38, 39, 40, 41, 42, 43, 44, 45, 46, 47, 48, 49, 50, 51, 52] (by decide +kernel) (by decide +kernel)
set_option maxRecDepth 20000 in
theorem gX11_value_X11_isWord : GoodIn wsX11_value (wsV RX11 119 RX11 yX11_isWord wsX11_isWord) := goodIn_app (goodIn_of _ (by decide +kernel)) ggX11_value_X11_isWord
set_option maxRecDepth 20000 in
theorem ggX11_value_X11_in : GoodIn wsX11_value wsX11_in := goodIn_r _ [10] (by decide +kernel) (by decide +kernel)
set_option maxRecDepth 20000 in
theorem gX11_value_X11_in : GoodIn wsX11_value (va_wsS RX11 86 yX11_in wsX11_in) := goodIn_app (goodIn_of _ (by decide +kernel)) ggX11_value_X11_in
set_option maxRecDepth 20000 in
theorem ggX11_value_X11_isKind : GoodIn wsX11_value wsX11_isKind := goodIn_r _ [14, 15, 16, 17, 18, 19, 20, 21, 22, 23, 24, 25, 26, 27, 28, 29, 30, 31, 32, 33, 34, 35, 36, 37, 38, 39, 40, 41, 42, 43, 44, 45, 46, 47, 48, 49, 50, 51, 52] (by decide +kernel) (by decide +kernel)
set_option maxRecDepth 20000 in
theorem gX11_value_X11_isKind : GoodIn wsX11_value (wsV RX11 122 RX11 yX11_isKind wsX11_isKind) := goodIn_app (goodIn_of _ (by decide +kernel)) ggX11_value_X11_isKind
theorem dX11_value_0 : decode cX11_value 0 = .ok (.aload_n 0, 1) := by decide +kernel
theorem dX11_value_1 : decode cX11_value 1 = .ok (.iload_n 1, 1) := by decide +kernel
theorem dX11_value_2 : decode cX11_value 2 = .ok (.invokevirtual 119, 3) := by decide +kernel
theorem dX11_value_5 : decode cX11_value 5 = .ok (.ifCond .ne 6, 3) := by decide +kernel
theorem dX11_value_8 : decode cX11_value 8 = .ok (.bipush (-2), 2) := by decide +kernel
theorem dX11_value_10 : decode cX11_value 10 = .ok (.ireturn, 1) := by decide +kernel
theorem dX11_value_11 : decode cX11_value 11 = .ok (.iload_n 2, 1) := by decide +kernel
theorem dX11_value_12 : decode cX11_value 12 = .ok (.iconst 0, 1) := by decide +kernel
theorem dX11_value_13 : decode cX11_value 13 = .ok (.sipush 1000, 3) := by decide +kernel
theorem dX11_value_16 : decode cX11_value 16 = .ok (.invokestatic 86, 3) := by decide +kernel
theorem dX11_value_19 : decode cX11_value 19 = .ok (.ifCond .ne 6, 3) := by decide +kernel
theorem dX11_value_22 : decode cX11_value 22 = .ok (.bipush (-3), 2) := by decide +kernel
theorem dX11_value_24 : decode cX11_value 24 = .ok (.ireturn, 1) := by decide +kernel
theorem dX11_value_25 : decode cX11_value 25 = .ok (.aload_n 0, 1) := by decide +kernel
theorem dX11_value_26 : decode cX11_value 26 = .ok (.iload_n 1, 1) := by decide +kernel
theorem dX11_value_27 : decode cX11_value 27 = .ok (.iconst 5, 1) := by decide +kernel
theorem dX11_value_28 : decode cX11_value 28 = .ok (.invokevirtual 122, 3) := by decide +kernel
theorem dX11_value_31 : decode cX11_value 31 = .ok (.ifCond .ne 6, 3) := by decide +kernel
theorem dX11_value_34 : decode cX11_value 34 = .ok (.bipush (-4), 2) := by decide +kernel
theorem dX11_value_36 : decode cX11_value 36 = .ok (.ireturn, 1) := by decide +kernel
theorem dX11_value_37 : decode cX11_value 37 = .ok (.aload_n 0, 1) := by decide +kernel
theorem dX11_value_38 : decode cX11_value 38 = .ok (.getfield 28, 3) := by decide +kernel
theorem dX11_value_41 : decode cX11_value 41 = .ok (.iload_n 1, 1) := by decide +kernel
theorem dX11_value_42 : decode cX11_value 42 = .ok (.iaload, 1) := by decide +kernel
theorem dX11_value_43 : decode cX11_value 43 = .ok (.istore_n 3, 1) := by decide +kernel
theorem dX11_value_44 : decode cX11_value 44 = .ok (.aload_n 0, 1) := by decide +kernel
theorem dX11_value_45 : decode cX11_value 45 = .ok (.getfield 28, 3) := by decide +kernel
theorem dX11_value_48 : decode cX11_value 48 = .ok (.iload_n 1, 1) := by decide +kernel
theorem dX11_value_49 : decode cX11_value 49 = .ok (.iload_n 2, 1) := by decide +kernel
theorem dX11_value_50 : decode cX11_value 50 = .ok (.iastore, 1) := by decide +kernel
theorem dX11_value_51 : decode cX11_value 51 = .ok (.iload_n 3, 1) := by decide +kernel
theorem dX11_value_52 : decode cX11_value 52 = .ok (.ireturn, 1) := by decide +kernel
set_option maxRecDepth 20000 in
theorem ggX11_plural_X11_isWord : GoodIn wsX11_plural wsX11_isWord := goodIn_r _ [6, 7, 8, 9, 5, 10, 11, 12, 13, 14, 15, 16, 17, 18, 19, 20, 21, 22, 23, 24, 25, 26, 27, 28, 29, 30, 31, 32, 33, 34, 35, 36, 37, 38, 39, 40, 41, 42, 43, 44, 45, 46, 47] (by decide +kernel) (by decide +kernel)
set_option maxRecDepth 20000 in
theorem gX11_plural_X11_isWord : GoodIn wsX11_plural (wsV RX11 119 RX11 yX11_isWord wsX11_isWord) := goodIn_app (goodIn_of _ (by decide +kernel)) ggX11_plural_X11_isWord
theorem dX11_plural_0 : decode cX11_plural 0 = .ok (.aload_n 0, 1) := by decide +kernel
theorem dX11_plural_1 : decode cX11_plural 1 = .ok (.iload_n 1, 1) := by decide +kernel
theorem dX11_plural_2 : decode cX11_plural 2 = .ok (.invokevirtual 119, 3) := by decide +kernel
theorem dX11_plural_5 : decode cX11_plural 5 = .ok (.ifCond .eq 16, 3) := by decide +kernel
theorem dX11_plural_8 : decode cX11_plural 8 = .ok (.iload_n 2, 1) := by decide +kernel
theorem dX11_plural_9 : decode cX11_plural 9 = .ok (.iconst (-1), 1) := by decide +kernel
theorem dX11_plural_10 : decode cX11_plural 10 = .ok (.if_icmp .eq 14, 3) := by decide +kernel
theorem dX11_plural_13 : decode cX11_plural 13 = .ok (.aload_n 0, 1) := by decide +kernel
theorem dX11_plural_14 : decode cX11_plural 14 = .ok (.iload_n 2, 1) := by decide +kernel
theorem dX11_plural_15 : decode cX11_plural 15 = .ok (.invokevirtual 119, 3) := by decide +kernel
theorem dX11_plural_18 : decode cX11_plural 18 = .ok (.ifCond .ne 6, 3) := by decide +kernel
theorem dX11_plural_21 : decode cX11_plural 21 = .ok (.bipush (-2), 2) := by decide +kernel
theorem dX11_plural_23 : decode cX11_plural 23 = .ok (.ireturn, 1) := by decide +kernel
theorem dX11_plural_24 : decode cX11_plural 24 = .ok (.iload_n 1, 1) := by decide +kernel
theorem dX11_plural_25 : decode cX11_plural 25 = .ok (.iload_n 2, 1) := by decide +kernel
theorem dX11_plural_26 : decode cX11_plural 26 = .ok (.if_icmp .ne 6, 3) := by decide +kernel
theorem dX11_plural_29 : decode cX11_plural 29 = .ok (.bipush (-4), 2) := by decide +kernel
theorem dX11_plural_31 : decode cX11_plural 31 = .ok (.ireturn, 1) := by decide +kernel
theorem dX11_plural_32 : decode cX11_plural 32 = .ok (.aload_n 0, 1) := by decide +kernel
theorem dX11_plural_33 : decode cX11_plural 33 = .ok (.getfield 31, 3) := by decide +kernel
theorem dX11_plural_36 : decode cX11_plural 36 = .ok (.iload_n 1, 1) := by decide +kernel
theorem dX11_plural_37 : decode cX11_plural 37 = .ok (.iaload, 1) := by decide +kernel
theorem dX11_plural_38 : decode cX11_plural 38 = .ok (.istore_n 3, 1) := by decide +kernel
theorem dX11_plural_39 : decode cX11_plural 39 = .ok (.aload_n 0, 1) := by decide +kernel
theorem dX11_plural_40 : decode cX11_plural 40 = .ok (.getfield 31, 3) := by decide +kernel
theorem dX11_plural_43 : decode cX11_plural 43 = .ok (.iload_n 1, 1) := by decide +kernel
theorem dX11_plural_44 : decode cX11_plural 44 = .ok (.iload_n 2, 1) := by decide +kernel
theorem dX11_plural_45 : decode cX11_plural 45 = .ok (.iastore, 1) := by decide +kernel
theorem dX11_plural_46 : decode cX11_plural 46 = .ok (.iload_n 3, 1) := by decide +kernel
theorem dX11_plural_47 : decode cX11_plural 47 = .ok (.ireturn, 1) := by decide +kernel
set_option maxRecDepth 20000 in
theorem ggX11_join_X11_isWord : GoodIn wsX11_join wsX11_isWord := goodIn_r _ [9, 10, 11, 12, 8, 13, 21, 22, 23, 24, 25, 26, 27, 28, 29, 30, 31, 32, 33, 34, 35, 36, 37, 38, 39, 40, 41, 42, 43, 44, 45, 46, 47, 48, 49, 50, 51, 52, 53, 54, 55, 56, 57] (by decide +kernel) (by decide +kernel)
set_option maxRecDepth 20000 in
theorem gX11_join_X11_isWord : GoodIn wsX11_join (wsV RX11 119 RX11 yX11_isWord wsX11_isWord) := goodIn_app (goodIn_of _ (by decide +kernel)) ggX11_join_X11_isWord
set_option maxRecDepth 20000 in
theorem ggX11_join_X11_lay : GoodIn wsX11_join wsX11_lay := goodIn_r _ [17, 1, 18, 19, 20, 21, 22, 23, 24, 25, 26, 27, 28, 29, 30, 31, 32, 33, 34, 35, 36, 37, 38, 39, 40, 41, 42, 43, 44, 45, 46, 47, 48, 49, 50, 51, 52, 53, 54, 55, 56, 57] (by decide +kernel) (by decide +kernel)
set_option maxRecDepth 20000 in
theorem gX11_join_X11_lay : GoodIn wsX11_join (wsV RX11 115 RX11 yX11_lay wsX11_lay) := goodIn_app (goodIn_of _ (by decide +kernel)) ggX11_join_X11_lay
theorem dX11_join_0 : decode cX11_join 0 = .ok (.aload_n 0, 1) := by decide +kernel
theorem dX11_join_1 : decode cX11_join 1 = .ok (.iload_n 1, 1) := by decide +kernel
theorem dX11_join_2 : decode cX11_join 2 = .ok (.invokevirtual 119, 3) := by decide +kernel
theorem dX11_join_5 : decode cX11_join 5 = .ok (.ifCond .eq 11, 3) := by decide +kernel
theorem dX11_join_8 : decode cX11_join 8 = .ok (.aload_n 0, 1) := by decide +kernel
theorem dX11_join_9 : decode cX11_join 9 = .ok (.iload_n 2, 1) := by decide +kernel
theorem dX11_join_10 : decode cX11_join 10 = .ok (.invokevirtual 119, 3) := by decide +kernel
theorem dX11_join_13 : decode cX11_join 13 = .ok (.ifCond .ne 6, 3) := by decide +kernel
theorem dX11_join_16 : decode cX11_join 16 = .ok (.bipush (-2), 2) := by decide +kernel
theorem dX11_join_18 : decode cX11_join 18 = .ok (.ireturn, 1) := by decide +kernel
theorem dX11_join_19 : decode cX11_join 19 = .ok (.aload_n 0, 1) := by decide +kernel
theorem dX11_join_20 : decode cX11_join 20 = .ok (.getfield 100, 3) := by decide +kernel
theorem dX11_join_23 : decode cX11_join 23 = .ok (.ifCond .ne 6, 3) := by decide +kernel
theorem dX11_join_26 : decode cX11_join 26 = .ok (.bipush (-4), 2) := by decide +kernel
theorem dX11_join_28 : decode cX11_join 28 = .ok (.ireturn, 1) := by decide +kernel
theorem dX11_join_29 : decode cX11_join 29 = .ok (.aload_n 0, 1) := by decide +kernel
theorem dX11_join_30 : decode cX11_join 30 = .ok (.getfield 93, 3) := by decide +kernel
theorem dX11_join_33 : decode cX11_join 33 = .ok (.bipush 8, 2) := by decide +kernel
theorem dX11_join_35 : decode cX11_join 35 = .ok (.if_icmp .ne 6, 3) := by decide +kernel
theorem dX11_join_38 : decode cX11_join 38 = .ok (.bipush (-5), 2) := by decide +kernel
theorem dX11_join_40 : decode cX11_join 40 = .ok (.ireturn, 1) := by decide +kernel
theorem dX11_join_41 : decode cX11_join 41 = .ok (.aload_n 0, 1) := by decide +kernel
theorem dX11_join_42 : decode cX11_join 42 = .ok (.bipush 40, 2) := by decide +kernel
theorem dX11_join_44 : decode cX11_join 44 = .ok (.aload_n 0, 1) := by decide +kernel
theorem dX11_join_45 : decode cX11_join 45 = .ok (.getfield 93, 3) := by decide +kernel
theorem dX11_join_48 : decode cX11_join 48 = .ok (.iadd, 1) := by decide +kernel
theorem dX11_join_49 : decode cX11_join 49 = .ok (.invokevirtual 115, 3) := by decide +kernel
theorem dX11_join_52 : decode cX11_join 52 = .ok (.aload_n 0, 1) := by decide +kernel
theorem dX11_join_53 : decode cX11_join 53 = .ok (.getfield 37, 3) := by decide +kernel
theorem dX11_join_56 : decode cX11_join 56 = .ok (.aload_n 0, 1) := by decide +kernel
theorem dX11_join_57 : decode cX11_join 57 = .ok (.getfield 93, 3) := by decide +kernel
theorem dX11_join_60 : decode cX11_join 60 = .ok (.iload_n 1, 1) := by decide +kernel
theorem dX11_join_61 : decode cX11_join 61 = .ok (.iastore, 1) := by decide +kernel
theorem dX11_join_62 : decode cX11_join 62 = .ok (.aload_n 0, 1) := by decide +kernel
theorem dX11_join_63 : decode cX11_join 63 = .ok (.getfield 40, 3) := by decide +kernel
theorem dX11_join_66 : decode cX11_join 66 = .ok (.aload_n 0, 1) := by decide +kernel
theorem dX11_join_67 : decode cX11_join 67 = .ok (.getfield 93, 3) := by decide +kernel
theorem dX11_join_70 : decode cX11_join 70 = .ok (.iload_n 2, 1) := by decide +kernel
theorem dX11_join_71 : decode cX11_join 71 = .ok (.iastore, 1) := by decide +kernel
theorem dX11_join_72 : decode cX11_join 72 = .ok (.aload_n 0, 1) := by decide +kernel
theorem dX11_join_73 : decode cX11_join 73 = .ok (.dup, 1) := by decide +kernel
theorem dX11_join_74 : decode cX11_join 74 = .ok (.getfield 93, 3) := by decide +kernel
theorem dX11_join_77 : decode cX11_join 77 = .ok (.iconst 1, 1) := by decide +kernel
theorem dX11_join_78 : decode cX11_join 78 = .ok (.iadd, 1) := by decide +kernel
theorem dX11_join_79 : decode cX11_join 79 = .ok (.putfield 93, 3) := by decide +kernel
theorem dX11_join_82 : decode cX11_join 82 = .ok (.aload_n 0, 1) := by decide +kernel
theorem dX11_join_83 : decode cX11_join 83 = .ok (.getfield 93, 3) := by decide +kernel
theorem dX11_join_86 : decode cX11_join 86 = .ok (.ireturn, 1) := by decide +kernel
set_option maxRecDepth 20000 in
theorem ggX11_type_X11_in : GoodIn wsX11_type wsX11_in := goodIn_r _ [6] (by decide +kernel) (by decide +kernel)
set_option maxRecDepth 20000 in
theorem gX11_type_X11_in : GoodIn wsX11_type (va_wsS RX11 86 yX11_in wsX11_in) := goodIn_app (goodIn_of _ (by decide +kernel)) ggX11_type_X11_in
theorem dX11_type_0 : decode cX11_type 0 = .ok (.iload_n 1, 1) := by decide +kernel
theorem dX11_type_1 : decode cX11_type 1 = .ok (.iconst 0, 1) := by decide +kernel
theorem dX11_type_2 : decode cX11_type 2 = .ok (.sipush 255, 3) := by decide +kernel
theorem dX11_type_5 : decode cX11_type 5 = .ok (.invokestatic 86, 3) := by decide +kernel
theorem dX11_type_8 : decode cX11_type 8 = .ok (.ifCond .ne 6, 3) := by decide +kernel
theorem dX11_type_11 : decode cX11_type 11 = .ok (.bipush (-3), 2) := by decide +kernel
theorem dX11_type_13 : decode cX11_type 13 = .ok (.ireturn, 1) := by decide +kernel
theorem dX11_type_14 : decode cX11_type 14 = .ok (.aload_n 0, 1) := by decide +kernel
theorem dX11_type_15 : decode cX11_type 15 = .ok (.getfield 126, 3) := by decide +kernel
theorem dX11_type_18 : decode cX11_type 18 = .ok (.bipush 80, 2) := by decide +kernel
theorem dX11_type_20 : decode cX11_type 20 = .ok (.if_icmp .ne 6, 3) := by decide +kernel
theorem dX11_type_23 : decode cX11_type 23 = .ok (.bipush (-5), 2) := by decide +kernel
theorem dX11_type_25 : decode cX11_type 25 = .ok (.ireturn, 1) := by decide +kernel
theorem dX11_type_26 : decode cX11_type 26 = .ok (.aload_n 0, 1) := by decide +kernel
theorem dX11_type_27 : decode cX11_type 27 = .ok (.getfield 43, 3) := by decide +kernel
theorem dX11_type_30 : decode cX11_type 30 = .ok (.aload_n 0, 1) := by decide +kernel
theorem dX11_type_31 : decode cX11_type 31 = .ok (.getfield 126, 3) := by decide +kernel
theorem dX11_type_34 : decode cX11_type 34 = .ok (.iload_n 1, 1) := by decide +kernel
theorem dX11_type_35 : decode cX11_type 35 = .ok (.iastore, 1) := by decide +kernel
theorem dX11_type_36 : decode cX11_type 36 = .ok (.aload_n 0, 1) := by decide +kernel
end
section
theorem dX11_type_37 : decode cX11_type 37 = .ok (.dup, 1) := by decide +kernel
theorem dX11_type_38 : decode cX11_type 38 = .ok (.getfield 126, 3) := by decide +kernel
theorem dX11_type_41 : decode cX11_type 41 = .ok (.iconst 1, 1) := by decide +kernel
theorem dX11_type_42 : decode cX11_type 42 = .ok (.iadd, 1) := by decide +kernel
theorem dX11_type_43 : decode cX11_type 43 = .ok (.putfield 126, 3) := by decide +kernel
theorem dX11_type_46 : decode cX11_type 46 = .ok (.aload_n 0, 1) := by decide +kernel
theorem dX11_type_47 : decode cX11_type 47 = .ok (.getfield 126, 3) := by decide +kernel
theorem dX11_type_50 : decode cX11_type 50 = .ok (.ireturn, 1) := by decide +kernel
theorem dX11_byteAt_0 : decode cX11_byteAt 0 = .ok (.iload_n 1, 1) := by decide +kernel
theorem dX11_byteAt_1 : decode cX11_byteAt 1 = .ok (.aload_n 0, 1) := by decide +kernel
theorem dX11_byteAt_2 : decode cX11_byteAt 2 = .ok (.getfield 126, 3) := by decide +kernel
theorem dX11_byteAt_5 : decode cX11_byteAt 5 = .ok (.if_icmp .ge 12, 3) := by decide +kernel
theorem dX11_byteAt_8 : decode cX11_byteAt 8 = .ok (.aload_n 0, 1) := by decide +kernel
theorem dX11_byteAt_9 : decode cX11_byteAt 9 = .ok (.getfield 43, 3) := by decide +kernel
theorem dX11_byteAt_12 : decode cX11_byteAt 12 = .ok (.iload_n 1, 1) := by decide +kernel
theorem dX11_byteAt_13 : decode cX11_byteAt 13 = .ok (.iaload, 1) := by decide +kernel
theorem dX11_byteAt_14 : decode cX11_byteAt 14 = .ok (.goto 4, 3) := by decide +kernel
theorem dX11_byteAt_17 : decode cX11_byteAt 17 = .ok (.iconst (-1), 1) := by decide +kernel
theorem dX11_byteAt_18 : decode cX11_byteAt 18 = .ok (.ireturn, 1) := by decide +kernel
theorem dX11_add_0 : decode cX11_add 0 = .ok (.aload_n 0, 1) := by decide +kernel
theorem dX11_add_1 : decode cX11_add 1 = .ok (.getfield 129, 3) := by decide +kernel
theorem dX11_add_4 : decode cX11_add 4 = .ok (.bipush 24, 2) := by decide +kernel
theorem dX11_add_6 : decode cX11_add 6 = .ok (.if_icmp .ne 9, 3) := by decide +kernel
theorem dX11_add_9 : decode cX11_add 9 = .ok (.aload_n 0, 1) := by decide +kernel
theorem dX11_add_10 : decode cX11_add 10 = .ok (.iconst 1, 1) := by decide +kernel
theorem dX11_add_11 : decode cX11_add 11 = .ok (.putfield 132, 3) := by decide +kernel
theorem dX11_add_14 : decode cX11_add 14 = .ok (.return_, 1) := by decide +kernel
theorem dX11_add_15 : decode cX11_add 15 = .ok (.aload_n 0, 1) := by decide +kernel
theorem dX11_add_16 : decode cX11_add 16 = .ok (.getfield 58, 3) := by decide +kernel
theorem dX11_add_19 : decode cX11_add 19 = .ok (.aload_n 0, 1) := by decide +kernel
theorem dX11_add_20 : decode cX11_add 20 = .ok (.getfield 129, 3) := by decide +kernel
theorem dX11_add_23 : decode cX11_add 23 = .ok (.iload_n 1, 1) := by decide +kernel
theorem dX11_add_24 : decode cX11_add 24 = .ok (.iastore, 1) := by decide +kernel
theorem dX11_add_25 : decode cX11_add 25 = .ok (.aload_n 0, 1) := by decide +kernel
theorem dX11_add_26 : decode cX11_add 26 = .ok (.getfield 61, 3) := by decide +kernel
theorem dX11_add_29 : decode cX11_add 29 = .ok (.aload_n 0, 1) := by decide +kernel
theorem dX11_add_30 : decode cX11_add 30 = .ok (.getfield 129, 3) := by decide +kernel
theorem dX11_add_33 : decode cX11_add 33 = .ok (.iload_n 2, 1) := by decide +kernel
theorem dX11_add_34 : decode cX11_add 34 = .ok (.iastore, 1) := by decide +kernel
theorem dX11_add_35 : decode cX11_add 35 = .ok (.aload_n 0, 1) := by decide +kernel
theorem dX11_add_36 : decode cX11_add 36 = .ok (.getfield 64, 3) := by decide +kernel
theorem dX11_add_39 : decode cX11_add 39 = .ok (.aload_n 0, 1) := by decide +kernel
theorem dX11_add_40 : decode cX11_add 40 = .ok (.getfield 129, 3) := by decide +kernel
theorem dX11_add_43 : decode cX11_add 43 = .ok (.iload_n 3, 1) := by decide +kernel
theorem dX11_add_44 : decode cX11_add 44 = .ok (.iastore, 1) := by decide +kernel
theorem dX11_add_45 : decode cX11_add 45 = .ok (.aload_n 0, 1) := by decide +kernel
theorem dX11_add_46 : decode cX11_add 46 = .ok (.getfield 67, 3) := by decide +kernel
theorem dX11_add_49 : decode cX11_add 49 = .ok (.aload_n 0, 1) := by decide +kernel
theorem dX11_add_50 : decode cX11_add 50 = .ok (.getfield 129, 3) := by decide +kernel
theorem dX11_add_53 : decode cX11_add 53 = .ok (.iload 4, 2) := by decide +kernel
theorem dX11_add_55 : decode cX11_add 55 = .ok (.iastore, 1) := by decide +kernel
theorem dX11_add_56 : decode cX11_add 56 = .ok (.aload_n 0, 1) := by decide +kernel
theorem dX11_add_57 : decode cX11_add 57 = .ok (.dup, 1) := by decide +kernel
theorem dX11_add_58 : decode cX11_add 58 = .ok (.getfield 129, 3) := by decide +kernel
theorem dX11_add_61 : decode cX11_add 61 = .ok (.iconst 1, 1) := by decide +kernel
theorem dX11_add_62 : decode cX11_add 62 = .ok (.iadd, 1) := by decide +kernel
theorem dX11_add_63 : decode cX11_add 63 = .ok (.putfield 129, 3) := by decide +kernel
theorem dX11_add_66 : decode cX11_add 66 = .ok (.return_, 1) := by decide +kernel
set_option maxRecDepth 20000 in
theorem ggX11_readLetters_X11_byteAt : GoodIn wsX11_readLetters wsX11_byteAt := goodIn_r _ [9, 10, 1, 45, 46, 47, 48, 49, 50, 51, 52, 53, 54, 55, 56, 57, 58, 59, 60, 61, 62, 63, 64, 65, 66, 67, 68, 69, 70, 71, 72, 73, 74, 75, 76, 77, 78, 79, 80, 81] (by decide +kernel) (by decide +kernel)
set_option maxRecDepth 20000 in
theorem gX11_readLetters_X11_byteAt : GoodIn wsX11_readLetters (wsV RX11 136 RX11 yX11_byteAt wsX11_byteAt) := goodIn_app (goodIn_of _ (by decide +kernel)) ggX11_readLetters_X11_byteAt
set_option maxRecDepth 20000 in
theorem ggX11_readLetters_X11_isLetter : GoodIn wsX11_readLetters wsX11_isLetter := goodIn_r _ [13, 14, 15, 8, 16] (by decide +kernel) (by decide +kernel)
set_option maxRecDepth 20000 in
theorem gX11_readLetters_X11_isLetter : GoodIn wsX11_readLetters (va_wsS RX11 96 yX11_isLetter wsX11_isLetter) := goodIn_app (goodIn_of _ (by decide +kernel)) ggX11_readLetters_X11_isLetter
set_option maxRecDepth 20000 in
theorem ggX11_readLetters_X11_found : GoodIn wsX11_readLetters wsX11_found := goodIn_r _ [20, 21, 22, 23, 24, 25, 8, 26, 27, 28, 29, 30, 31, 32, 33, 34, 14, 15, 16, 45, 46, 47, 48, 49, 50, 51, 52, 53, 54, 55, 56, 57, 58, 59, 60, 61, 62, 63, 64, 65, 66, 67, 68, 69, 70, 71, 72, 73, 74, 75, 76, 77, 78, 79, 80, 81] (by decide +kernel) (by decide +kernel)
set_option maxRecDepth 20000 in
theorem gX11_readLetters_X11_found : GoodIn wsX11_readLetters (wsV RX11 111 RX11 yX11_found wsX11_found) := goodIn_app (goodIn_of _ (by decide +kernel)) ggX11_readLetters_X11_found
set_option maxRecDepth 20000 in
theorem ggX11_readLetters_X11_add : GoodIn wsX11_readLetters wsX11_add := goodIn_r _ [38, 39, 40, 41, 42, 43, 44, 45, 46, 47, 48, 49, 50, 51, 52, 53, 54, 55, 56, 57, 58, 59, 60, 61, 62, 63, 64, 65, 66, 67, 68, 69, 70, 71, 72, 73, 74, 75, 76, 77, 78, 79, 80, 81] (by decide +kernel) (by decide +kernel)
set_option maxRecDepth 20000 in
theorem gX11_readLetters_X11_add : GoodIn wsX11_readLetters (wsV RX11 139 RX11 yX11_add wsX11_add) := goodIn_app (goodIn_of _ (by decide +kernel)) ggX11_readLetters_X11_add
set_option maxRecDepth 20000 in
theorem ggX11_readLetters_X11_isLike : GoodIn wsX11_readLetters wsX11_isLike := goodIn_r _ [26, 27, 28, 29, 30, 31, 32, 8, 33, 34, 14, 15, 16, 45, 46, 47, 48, 49, 50, 51, 52, 53, 54, 55, 56, 57, 58, 59, 60, 61, 62, 63, 64, 65, 66, 67, 68, 69, 70, 71, 72, 73, 74, 75, 76, 77, 78, 79, 80, 81] (by decide +kernel) (by decide +kernel)
set_option maxRecDepth 20000 in
theorem gX11_readLetters_X11_isLike : GoodIn wsX11_readLetters (wsV RX11 107 RX11 yX11_isLike wsX11_isLike) := goodIn_app (goodIn_of _ (by decide +kernel)) ggX11_readLetters_X11_isLike
theorem dX11_readLetters_0 : decode cX11_readLetters 0 = .ok (.iload_n 1, 1) := by decide +kernel
theorem dX11_readLetters_1 : decode cX11_readLetters 1 = .ok (.istore_n 3, 1) := by decide +kernel
theorem dX11_readLetters_2 : decode cX11_readLetters 2 = .ok (.aload_n 0, 1) := by decide +kernel
theorem dX11_readLetters_3 : decode cX11_readLetters 3 = .ok (.iload_n 3, 1) := by decide +kernel
theorem dX11_readLetters_4 : decode cX11_readLetters 4 = .ok (.invokevirtual 136, 3) := by decide +kernel
theorem dX11_readLetters_7 : decode cX11_readLetters 7 = .ok (.invokestatic 96, 3) := by decide +kernel
theorem dX11_readLetters_10 : decode cX11_readLetters 10 = .ok (.ifCond .eq 9, 3) := by decide +kernel
theorem dX11_readLetters_13 : decode cX11_readLetters 13 = .ok (.iinc 3 1, 3) := by decide +kernel
theorem dX11_readLetters_16 : decode cX11_readLetters 16 = .ok (.goto (-14), 3) := by decide +kernel
theorem dX11_readLetters_19 : decode cX11_readLetters 19 = .ok (.aload_n 0, 1) := by decide +kernel
theorem dX11_readLetters_20 : decode cX11_readLetters 20 = .ok (.aload_n 0, 1) := by decide +kernel
theorem dX11_readLetters_21 : decode cX11_readLetters 21 = .ok (.getfield 43, 3) := by decide +kernel
theorem dX11_readLetters_24 : decode cX11_readLetters 24 = .ok (.iload_n 1, 1) := by decide +kernel
theorem dX11_readLetters_25 : decode cX11_readLetters 25 = .ok (.iload_n 3, 1) := by decide +kernel
theorem dX11_readLetters_26 : decode cX11_readLetters 26 = .ok (.iload_n 1, 1) := by decide +kernel
theorem dX11_readLetters_27 : decode cX11_readLetters 27 = .ok (.isub, 1) := by decide +kernel
theorem dX11_readLetters_28 : decode cX11_readLetters 28 = .ok (.iload_n 2, 1) := by decide +kernel
theorem dX11_readLetters_29 : decode cX11_readLetters 29 = .ok (.invokevirtual 111, 3) := by decide +kernel
theorem dX11_readLetters_32 : decode cX11_readLetters 32 = .ok (.istore 4, 2) := by decide +kernel
theorem dX11_readLetters_34 : decode cX11_readLetters 34 = .ok (.iload 4, 2) := by decide +kernel
theorem dX11_readLetters_36 : decode cX11_readLetters 36 = .ok (.ifCond .ge 18, 3) := by decide +kernel
theorem dX11_readLetters_39 : decode cX11_readLetters 39 = .ok (.aload_n 0, 1) := by decide +kernel
theorem dX11_readLetters_40 : decode cX11_readLetters 40 = .ok (.aload_n 0, 1) := by decide +kernel
theorem dX11_readLetters_41 : decode cX11_readLetters 41 = .ok (.getfield 43, 3) := by decide +kernel
theorem dX11_readLetters_44 : decode cX11_readLetters 44 = .ok (.iload_n 1, 1) := by decide +kernel
theorem dX11_readLetters_45 : decode cX11_readLetters 45 = .ok (.iload_n 3, 1) := by decide +kernel
theorem dX11_readLetters_46 : decode cX11_readLetters 46 = .ok (.iload_n 1, 1) := by decide +kernel
theorem dX11_readLetters_47 : decode cX11_readLetters 47 = .ok (.isub, 1) := by decide +kernel
theorem dX11_readLetters_48 : decode cX11_readLetters 48 = .ok (.iconst 0, 1) := by decide +kernel
theorem dX11_readLetters_49 : decode cX11_readLetters 49 = .ok (.invokevirtual 111, 3) := by decide +kernel
theorem dX11_readLetters_52 : decode cX11_readLetters 52 = .ok (.istore 4, 2) := by decide +kernel
theorem dX11_readLetters_54 : decode cX11_readLetters 54 = .ok (.iload 4, 2) := by decide +kernel
theorem dX11_readLetters_56 : decode cX11_readLetters 56 = .ok (.ifCond .lt 16, 3) := by decide +kernel
theorem dX11_readLetters_59 : decode cX11_readLetters 59 = .ok (.aload_n 0, 1) := by decide +kernel
theorem dX11_readLetters_60 : decode cX11_readLetters 60 = .ok (.iconst 0, 1) := by decide +kernel
theorem dX11_readLetters_61 : decode cX11_readLetters 61 = .ok (.iload_n 1, 1) := by decide +kernel
theorem dX11_readLetters_62 : decode cX11_readLetters 62 = .ok (.iload_n 3, 1) := by decide +kernel
theorem dX11_readLetters_63 : decode cX11_readLetters 63 = .ok (.iload_n 1, 1) := by decide +kernel
theorem dX11_readLetters_64 : decode cX11_readLetters 64 = .ok (.isub, 1) := by decide +kernel
theorem dX11_readLetters_65 : decode cX11_readLetters 65 = .ok (.iload 4, 2) := by decide +kernel
theorem dX11_readLetters_67 : decode cX11_readLetters 67 = .ok (.invokevirtual 139, 3) := by decide +kernel
theorem dX11_readLetters_70 : decode cX11_readLetters 70 = .ok (.iload_n 3, 1) := by decide +kernel
theorem dX11_readLetters_71 : decode cX11_readLetters 71 = .ok (.ireturn, 1) := by decide +kernel
theorem dX11_readLetters_72 : decode cX11_readLetters 72 = .ok (.iconst 0, 1) := by decide +kernel
theorem dX11_readLetters_73 : decode cX11_readLetters 73 = .ok (.istore 5, 2) := by decide +kernel
theorem dX11_readLetters_75 : decode cX11_readLetters 75 = .ok (.iload 5, 2) := by decide +kernel
theorem dX11_readLetters_77 : decode cX11_readLetters 77 = .ok (.aload_n 0, 1) := by decide +kernel
theorem dX11_readLetters_78 : decode cX11_readLetters 78 = .ok (.getfield 93, 3) := by decide +kernel
theorem dX11_readLetters_81 : decode cX11_readLetters 81 = .ok (.if_icmp .ge 63, 3) := by decide +kernel
theorem dX11_readLetters_84 : decode cX11_readLetters 84 = .ok (.aload_n 0, 1) := by decide +kernel
theorem dX11_readLetters_85 : decode cX11_readLetters 85 = .ok (.aload_n 0, 1) := by decide +kernel
theorem dX11_readLetters_86 : decode cX11_readLetters 86 = .ok (.getfield 43, 3) := by decide +kernel
theorem dX11_readLetters_89 : decode cX11_readLetters 89 = .ok (.iload_n 1, 1) := by decide +kernel
theorem dX11_readLetters_90 : decode cX11_readLetters 90 = .ok (.iload_n 3, 1) := by decide +kernel
theorem dX11_readLetters_91 : decode cX11_readLetters 91 = .ok (.iload_n 1, 1) := by decide +kernel
theorem dX11_readLetters_92 : decode cX11_readLetters 92 = .ok (.isub, 1) := by decide +kernel
theorem dX11_readLetters_93 : decode cX11_readLetters 93 = .ok (.bipush 40, 2) := by decide +kernel
theorem dX11_readLetters_95 : decode cX11_readLetters 95 = .ok (.iload 5, 2) := by decide +kernel
theorem dX11_readLetters_97 : decode cX11_readLetters 97 = .ok (.iadd, 1) := by decide +kernel
theorem dX11_readLetters_98 : decode cX11_readLetters 98 = .ok (.invokevirtual 107, 3) := by decide +kernel
theorem dX11_readLetters_101 : decode cX11_readLetters 101 = .ok (.ifCond .eq 37, 3) := by decide +kernel
theorem dX11_readLetters_104 : decode cX11_readLetters 104 = .ok (.aload_n 0, 1) := by decide +kernel
theorem dX11_readLetters_105 : decode cX11_readLetters 105 = .ok (.iconst 0, 1) := by decide +kernel
theorem dX11_readLetters_106 : decode cX11_readLetters 106 = .ok (.iload_n 1, 1) := by decide +kernel
theorem dX11_readLetters_107 : decode cX11_readLetters 107 = .ok (.iload_n 3, 1) := by decide +kernel
theorem dX11_readLetters_108 : decode cX11_readLetters 108 = .ok (.iload_n 1, 1) := by decide +kernel
theorem dX11_readLetters_109 : decode cX11_readLetters 109 = .ok (.isub, 1) := by decide +kernel
theorem dX11_readLetters_110 : decode cX11_readLetters 110 = .ok (.aload_n 0, 1) := by decide +kernel
theorem dX11_readLetters_111 : decode cX11_readLetters 111 = .ok (.getfield 37, 3) := by decide +kernel
theorem dX11_readLetters_114 : decode cX11_readLetters 114 = .ok (.iload 5, 2) := by decide +kernel
theorem dX11_readLetters_116 : decode cX11_readLetters 116 = .ok (.iaload, 1) := by decide +kernel
theorem dX11_readLetters_117 : decode cX11_readLetters 117 = .ok (.invokevirtual 139, 3) := by decide +kernel
theorem dX11_readLetters_120 : decode cX11_readLetters 120 = .ok (.aload_n 0, 1) := by decide +kernel
theorem dX11_readLetters_121 : decode cX11_readLetters 121 = .ok (.iconst 0, 1) := by decide +kernel
theorem dX11_readLetters_122 : decode cX11_readLetters 122 = .ok (.iload_n 1, 1) := by decide +kernel
theorem dX11_readLetters_123 : decode cX11_readLetters 123 = .ok (.iload_n 3, 1) := by decide +kernel
theorem dX11_readLetters_124 : decode cX11_readLetters 124 = .ok (.iload_n 1, 1) := by decide +kernel
theorem dX11_readLetters_125 : decode cX11_readLetters 125 = .ok (.isub, 1) := by decide +kernel
theorem dX11_readLetters_126 : decode cX11_readLetters 126 = .ok (.aload_n 0, 1) := by decide +kernel
theorem dX11_readLetters_127 : decode cX11_readLetters 127 = .ok (.getfield 40, 3) := by decide +kernel
theorem dX11_readLetters_130 : decode cX11_readLetters 130 = .ok (.iload 5, 2) := by decide +kernel
theorem dX11_readLetters_132 : decode cX11_readLetters 132 = .ok (.iaload, 1) := by decide +kernel
theorem dX11_readLetters_133 : decode cX11_readLetters 133 = .ok (.invokevirtual 139, 3) := by decide +kernel
theorem dX11_readLetters_136 : decode cX11_readLetters 136 = .ok (.iload_n 3, 1) := by decide +kernel
theorem dX11_readLetters_137 : decode cX11_readLetters 137 = .ok (.ireturn, 1) := by decide +kernel
theorem dX11_readLetters_138 : decode cX11_readLetters 138 = .ok (.iinc 5 1, 3) := by decide +kernel
theorem dX11_readLetters_141 : decode cX11_readLetters 141 = .ok (.goto (-66), 3) := by decide +kernel
theorem dX11_readLetters_144 : decode cX11_readLetters 144 = .ok (.aload_n 0, 1) := by decide +kernel
theorem dX11_readLetters_145 : decode cX11_readLetters 145 = .ok (.iconst 1, 1) := by decide +kernel
theorem dX11_readLetters_146 : decode cX11_readLetters 146 = .ok (.iload_n 1, 1) := by decide +kernel
theorem dX11_readLetters_147 : decode cX11_readLetters 147 = .ok (.iload_n 3, 1) := by decide +kernel
theorem dX11_readLetters_148 : decode cX11_readLetters 148 = .ok (.iload_n 1, 1) := by decide +kernel
theorem dX11_readLetters_149 : decode cX11_readLetters 149 = .ok (.isub, 1) := by decide +kernel
theorem dX11_readLetters_150 : decode cX11_readLetters 150 = .ok (.iconst (-1), 1) := by decide +kernel
theorem dX11_readLetters_151 : decode cX11_readLetters 151 = .ok (.invokevirtual 139, 3) := by decide +kernel
theorem dX11_readLetters_154 : decode cX11_readLetters 154 = .ok (.iload_n 3, 1) := by decide +kernel
theorem dX11_readLetters_155 : decode cX11_readLetters 155 = .ok (.ireturn, 1) := by decide +kernel
theorem dX11_numberOf_0 : decode cX11_numberOf 0 = .ok (.iconst 0, 1) := by decide +kernel
theorem dX11_numberOf_1 : decode cX11_numberOf 1 = .ok (.istore_n 3, 1) := by decide +kernel
theorem dX11_numberOf_2 : decode cX11_numberOf 2 = .ok (.iload_n 1, 1) := by decide +kernel
theorem dX11_numberOf_3 : decode cX11_numberOf 3 = .ok (.istore 4, 2) := by decide +kernel
theorem dX11_numberOf_5 : decode cX11_numberOf 5 = .ok (.iload 4, 2) := by decide +kernel
theorem dX11_numberOf_7 : decode cX11_numberOf 7 = .ok (.iload_n 2, 1) := by decide +kernel
theorem dX11_numberOf_8 : decode cX11_numberOf 8 = .ok (.if_icmp .ge 38, 3) := by decide +kernel
theorem dX11_numberOf_11 : decode cX11_numberOf 11 = .ok (.bipush 10, 2) := by decide +kernel
theorem dX11_numberOf_13 : decode cX11_numberOf 13 = .ok (.iload_n 3, 1) := by decide +kernel
theorem dX11_numberOf_14 : decode cX11_numberOf 14 = .ok (.imul, 1) := by decide +kernel
theorem dX11_numberOf_15 : decode cX11_numberOf 15 = .ok (.aload_n 0, 1) := by decide +kernel
theorem dX11_numberOf_16 : decode cX11_numberOf 16 = .ok (.getfield 43, 3) := by decide +kernel
theorem dX11_numberOf_19 : decode cX11_numberOf 19 = .ok (.iload 4, 2) := by decide +kernel
theorem dX11_numberOf_21 : decode cX11_numberOf 21 = .ok (.iaload, 1) := by decide +kernel
theorem dX11_numberOf_22 : decode cX11_numberOf 22 = .ok (.iadd, 1) := by decide +kernel
theorem dX11_numberOf_23 : decode cX11_numberOf 23 = .ok (.bipush 48, 2) := by decide +kernel
theorem dX11_numberOf_25 : decode cX11_numberOf 25 = .ok (.isub, 1) := by decide +kernel
theorem dX11_numberOf_26 : decode cX11_numberOf 26 = .ok (.istore_n 3, 1) := by decide +kernel
theorem dX11_numberOf_27 : decode cX11_numberOf 27 = .ok (.iload_n 3, 1) := by decide +kernel
theorem dX11_numberOf_28 : decode cX11_numberOf 28 = .ok (.ldc 143, 2) := by decide +kernel
theorem dX11_numberOf_30 : decode cX11_numberOf 30 = .ok (.if_icmp .le 8, 3) := by decide +kernel
theorem dX11_numberOf_33 : decode cX11_numberOf 33 = .ok (.ldc 143, 2) := by decide +kernel
theorem dX11_numberOf_35 : decode cX11_numberOf 35 = .ok (.goto 4, 3) := by decide +kernel
theorem dX11_numberOf_38 : decode cX11_numberOf 38 = .ok (.iload_n 3, 1) := by decide +kernel
theorem dX11_numberOf_39 : decode cX11_numberOf 39 = .ok (.istore_n 3, 1) := by decide +kernel
theorem dX11_numberOf_40 : decode cX11_numberOf 40 = .ok (.iinc 4 1, 3) := by decide +kernel
theorem dX11_numberOf_43 : decode cX11_numberOf 43 = .ok (.goto (-38), 3) := by decide +kernel
theorem dX11_numberOf_46 : decode cX11_numberOf 46 = .ok (.iload_n 3, 1) := by decide +kernel
theorem dX11_numberOf_47 : decode cX11_numberOf 47 = .ok (.ireturn, 1) := by decide +kernel
set_option maxRecDepth 20000 in
theorem ggX11_readDigits_X11_byteAt : GoodIn wsX11_readDigits wsX11_byteAt := goodIn_r _ [5, 6, 7, 41, 42, 43, 44, 45, 46, 47, 48, 49, 50, 51, 52, 53, 54, 55, 56, 57, 58, 59, 60, 61, 62, 63, 64, 65, 66, 67, 68, 69, 70, 71, 72, 73, 74, 75, 76, 77] (by decide +kernel) (by decide +kernel)
set_option maxRecDepth 20000 in
theorem gX11_readDigits_X11_byteAt : GoodIn wsX11_readDigits (wsV RX11 136 RX11 yX11_byteAt wsX11_byteAt) := goodIn_app (goodIn_of _ (by decide +kernel)) ggX11_readDigits_X11_byteAt
set_option maxRecDepth 20000 in
theorem ggX11_readDigits_X11_isDigit : GoodIn wsX11_readDigits wsX11_isDigit := goodIn_r _ [10, 11, 12, 4, 13] (by decide +kernel) (by decide +kernel)
set_option maxRecDepth 20000 in
theorem gX11_readDigits_X11_isDigit : GoodIn wsX11_readDigits (va_wsS RX11 144 yX11_isDigit wsX11_isDigit) := goodIn_app (goodIn_of _ (by decide +kernel)) ggX11_readDigits_X11_isDigit
set_option maxRecDepth 20000 in
theorem ggX11_readDigits_X11_numberOf : GoodIn wsX11_readDigits wsX11_numberOf := goodIn_r _ [17, 7, 18, 41, 42, 43, 44, 45, 46, 47, 48, 49, 50, 51, 52, 53, 54, 55, 56, 57, 58, 59, 60, 61, 62, 63, 64, 65, 66, 67, 68, 69, 70, 71, 72, 73, 74, 75, 76, 77] (by decide +kernel) (by decide +kernel)
set_option maxRecDepth 20000 in
theorem gX11_readDigits_X11_numberOf : GoodIn wsX11_readDigits (wsV RX11 147 RX11 yX11_numberOf wsX11_numberOf) := goodIn_app (goodIn_of _ (by decide +kernel)) ggX11_readDigits_X11_numberOf
set_option maxRecDepth 20000 in
theorem ggX11_readDigits_X11_readTime : GoodIn wsX11_readDigits wsX11_readTime := goodIn_r _ [22, 1, 2, 3, 4, 5, 6, 7, 23, 24, 25, 11, 12, 13, 26, 27, 28, 29, 30, 14, 15, 16, 17, 18, 31, 32, 33, 34, 35, 36, 37, 38, 39, 40, 41, 42, 43, 44, 45, 46, 47, 48, 49, 50, 51, 52, 53, 54, 55, 56, 57, 58, 59, 60, 61, 62, 63, 64, 65, 66, 67, 68, 69, 70, 71, 72, 73, 74, 75, 76, 77] (by decide +kernel) (by decide +kernel)
set_option maxRecDepth 20000 in
theorem gX11_readDigits_X11_readTime : GoodIn wsX11_readDigits (wsV RX11 151 RX11 yX11_readTime wsX11_readTime) := goodIn_app (goodIn_of _ (by decide +kernel)) ggX11_readDigits_X11_readTime
set_option maxRecDepth 20000 in
theorem ggX11_readDigits_X11_add : GoodIn wsX11_readDigits wsX11_add := goodIn_r _ [34, 35, 36, 37, 38, 39, 40, 41, 42, 43, 44, 45, 46, 47, 48, 49, 50, 51, 52, 53, 54, 55, 56, 57, 58, 59, 60, 61, 62, 63, 64, 65, 66, 67, 68, 69, 70, 71, 72, 73, 74, 75, 76, 77] (by decide +kernel) (by decide +kernel)
set_option maxRecDepth 20000 in
theorem gX11_readDigits_X11_add : GoodIn wsX11_readDigits (wsV RX11 139 RX11 yX11_add wsX11_add) := goodIn_app (goodIn_of _ (by decide +kernel)) ggX11_readDigits_X11_add
theorem dX11_readDigits_0 : decode cX11_readDigits 0 = .ok (.iload_n 1, 1) := by decide +kernel
theorem dX11_readDigits_1 : decode cX11_readDigits 1 = .ok (.istore_n 2, 1) := by decide +kernel
theorem dX11_readDigits_2 : decode cX11_readDigits 2 = .ok (.aload_n 0, 1) := by decide +kernel
theorem dX11_readDigits_3 : decode cX11_readDigits 3 = .ok (.iload_n 2, 1) := by decide +kernel
theorem dX11_readDigits_4 : decode cX11_readDigits 4 = .ok (.invokevirtual 136, 3) := by decide +kernel
theorem dX11_readDigits_7 : decode cX11_readDigits 7 = .ok (.invokestatic 144, 3) := by decide +kernel
theorem dX11_readDigits_10 : decode cX11_readDigits 10 = .ok (.ifCond .eq 9, 3) := by decide +kernel
theorem dX11_readDigits_13 : decode cX11_readDigits 13 = .ok (.iinc 2 1, 3) := by decide +kernel
theorem dX11_readDigits_16 : decode cX11_readDigits 16 = .ok (.goto (-14), 3) := by decide +kernel
theorem dX11_readDigits_19 : decode cX11_readDigits 19 = .ok (.aload_n 0, 1) := by decide +kernel
theorem dX11_readDigits_20 : decode cX11_readDigits 20 = .ok (.iload_n 1, 1) := by decide +kernel
theorem dX11_readDigits_21 : decode cX11_readDigits 21 = .ok (.iload_n 2, 1) := by decide +kernel
theorem dX11_readDigits_22 : decode cX11_readDigits 22 = .ok (.invokevirtual 147, 3) := by decide +kernel
theorem dX11_readDigits_25 : decode cX11_readDigits 25 = .ok (.istore_n 3, 1) := by decide +kernel
theorem dX11_readDigits_26 : decode cX11_readDigits 26 = .ok (.iload_n 2, 1) := by decide +kernel
theorem dX11_readDigits_27 : decode cX11_readDigits 27 = .ok (.iload_n 1, 1) := by decide +kernel
theorem dX11_readDigits_28 : decode cX11_readDigits 28 = .ok (.isub, 1) := by decide +kernel
theorem dX11_readDigits_29 : decode cX11_readDigits 29 = .ok (.iconst 3, 1) := by decide +kernel
theorem dX11_readDigits_30 : decode cX11_readDigits 30 = .ok (.if_icmp .ge 81, 3) := by decide +kernel
theorem dX11_readDigits_33 : decode cX11_readDigits 33 = .ok (.aload_n 0, 1) := by decide +kernel
theorem dX11_readDigits_34 : decode cX11_readDigits 34 = .ok (.iload_n 2, 1) := by decide +kernel
theorem dX11_readDigits_35 : decode cX11_readDigits 35 = .ok (.invokevirtual 136, 3) := by decide +kernel
theorem dX11_readDigits_38 : decode cX11_readDigits 38 = .ok (.bipush 58, 2) := by decide +kernel
theorem dX11_readDigits_40 : decode cX11_readDigits 40 = .ok (.if_icmp .ne 71, 3) := by decide +kernel
theorem dX11_readDigits_43 : decode cX11_readDigits 43 = .ok (.aload_n 0, 1) := by decide +kernel
theorem dX11_readDigits_44 : decode cX11_readDigits 44 = .ok (.iload_n 2, 1) := by decide +kernel
theorem dX11_readDigits_45 : decode cX11_readDigits 45 = .ok (.iconst 1, 1) := by decide +kernel
theorem dX11_readDigits_46 : decode cX11_readDigits 46 = .ok (.iadd, 1) := by decide +kernel
theorem dX11_readDigits_47 : decode cX11_readDigits 47 = .ok (.invokevirtual 136, 3) := by decide +kernel
theorem dX11_readDigits_50 : decode cX11_readDigits 50 = .ok (.invokestatic 144, 3) := by decide +kernel
theorem dX11_readDigits_53 : decode cX11_readDigits 53 = .ok (.ifCond .eq 58, 3) := by decide +kernel
theorem dX11_readDigits_56 : decode cX11_readDigits 56 = .ok (.aload_n 0, 1) := by decide +kernel
theorem dX11_readDigits_57 : decode cX11_readDigits 57 = .ok (.iload_n 2, 1) := by decide +kernel
theorem dX11_readDigits_58 : decode cX11_readDigits 58 = .ok (.iconst 2, 1) := by decide +kernel
theorem dX11_readDigits_59 : decode cX11_readDigits 59 = .ok (.iadd, 1) := by decide +kernel
theorem dX11_readDigits_60 : decode cX11_readDigits 60 = .ok (.invokevirtual 136, 3) := by decide +kernel
theorem dX11_readDigits_63 : decode cX11_readDigits 63 = .ok (.invokestatic 144, 3) := by decide +kernel
theorem dX11_readDigits_66 : decode cX11_readDigits 66 = .ok (.ifCond .eq 45, 3) := by decide +kernel
theorem dX11_readDigits_69 : decode cX11_readDigits 69 = .ok (.aload_n 0, 1) := by decide +kernel
theorem dX11_readDigits_70 : decode cX11_readDigits 70 = .ok (.iload_n 2, 1) := by decide +kernel
theorem dX11_readDigits_71 : decode cX11_readDigits 71 = .ok (.iconst 3, 1) := by decide +kernel
theorem dX11_readDigits_72 : decode cX11_readDigits 72 = .ok (.iadd, 1) := by decide +kernel
theorem dX11_readDigits_73 : decode cX11_readDigits 73 = .ok (.invokevirtual 136, 3) := by decide +kernel
theorem dX11_readDigits_76 : decode cX11_readDigits 76 = .ok (.invokestatic 144, 3) := by decide +kernel
theorem dX11_readDigits_79 : decode cX11_readDigits 79 = .ok (.ifCond .ne 32, 3) := by decide +kernel
theorem dX11_readDigits_82 : decode cX11_readDigits 82 = .ok (.iload_n 3, 1) := by decide +kernel
theorem dX11_readDigits_83 : decode cX11_readDigits 83 = .ok (.bipush 24, 2) := by decide +kernel
theorem dX11_readDigits_85 : decode cX11_readDigits 85 = .ok (.if_icmp .ge 26, 3) := by decide +kernel
theorem dX11_readDigits_88 : decode cX11_readDigits 88 = .ok (.aload_n 0, 1) := by decide +kernel
theorem dX11_readDigits_89 : decode cX11_readDigits 89 = .ok (.iload_n 2, 1) := by decide +kernel
theorem dX11_readDigits_90 : decode cX11_readDigits 90 = .ok (.iconst 1, 1) := by decide +kernel
theorem dX11_readDigits_91 : decode cX11_readDigits 91 = .ok (.iadd, 1) := by decide +kernel
theorem dX11_readDigits_92 : decode cX11_readDigits 92 = .ok (.iload_n 2, 1) := by decide +kernel
theorem dX11_readDigits_93 : decode cX11_readDigits 93 = .ok (.iconst 3, 1) := by decide +kernel
theorem dX11_readDigits_94 : decode cX11_readDigits 94 = .ok (.iadd, 1) := by decide +kernel
theorem dX11_readDigits_95 : decode cX11_readDigits 95 = .ok (.invokevirtual 147, 3) := by decide +kernel
theorem dX11_readDigits_98 : decode cX11_readDigits 98 = .ok (.bipush 60, 2) := by decide +kernel
theorem dX11_readDigits_100 : decode cX11_readDigits 100 = .ok (.if_icmp .ge 11, 3) := by decide +kernel
theorem dX11_readDigits_103 : decode cX11_readDigits 103 = .ok (.aload_n 0, 1) := by decide +kernel
theorem dX11_readDigits_104 : decode cX11_readDigits 104 = .ok (.iload_n 1, 1) := by decide +kernel
theorem dX11_readDigits_105 : decode cX11_readDigits 105 = .ok (.iload_n 2, 1) := by decide +kernel
theorem dX11_readDigits_106 : decode cX11_readDigits 106 = .ok (.iload_n 3, 1) := by decide +kernel
theorem dX11_readDigits_107 : decode cX11_readDigits 107 = .ok (.invokevirtual 151, 3) := by decide +kernel
theorem dX11_readDigits_110 : decode cX11_readDigits 110 = .ok (.ireturn, 1) := by decide +kernel
theorem dX11_readDigits_111 : decode cX11_readDigits 111 = .ok (.iload_n 3, 1) := by decide +kernel
theorem dX11_readDigits_112 : decode cX11_readDigits 112 = .ok (.sipush 30000, 3) := by decide +kernel
theorem dX11_readDigits_115 : decode cX11_readDigits 115 = .ok (.if_icmp .le 17, 3) := by decide +kernel
theorem dX11_readDigits_118 : decode cX11_readDigits 118 = .ok (.aload_n 0, 1) := by decide +kernel
theorem dX11_readDigits_119 : decode cX11_readDigits 119 = .ok (.bipush 6, 2) := by decide +kernel
theorem dX11_readDigits_121 : decode cX11_readDigits 121 = .ok (.iload_n 1, 1) := by decide +kernel
theorem dX11_readDigits_122 : decode cX11_readDigits 122 = .ok (.iload_n 2, 1) := by decide +kernel
theorem dX11_readDigits_123 : decode cX11_readDigits 123 = .ok (.iload_n 1, 1) := by decide +kernel
theorem dX11_readDigits_124 : decode cX11_readDigits 124 = .ok (.isub, 1) := by decide +kernel
theorem dX11_readDigits_125 : decode cX11_readDigits 125 = .ok (.iconst (-1), 1) := by decide +kernel
theorem dX11_readDigits_126 : decode cX11_readDigits 126 = .ok (.invokevirtual 139, 3) := by decide +kernel
theorem dX11_readDigits_129 : decode cX11_readDigits 129 = .ok (.goto 13, 3) := by decide +kernel
theorem dX11_readDigits_132 : decode cX11_readDigits 132 = .ok (.aload_n 0, 1) := by decide +kernel
theorem dX11_readDigits_133 : decode cX11_readDigits 133 = .ok (.iconst 2, 1) := by decide +kernel
theorem dX11_readDigits_134 : decode cX11_readDigits 134 = .ok (.iload_n 1, 1) := by decide +kernel
theorem dX11_readDigits_135 : decode cX11_readDigits 135 = .ok (.iload_n 2, 1) := by decide +kernel
theorem dX11_readDigits_136 : decode cX11_readDigits 136 = .ok (.iload_n 1, 1) := by decide +kernel
theorem dX11_readDigits_137 : decode cX11_readDigits 137 = .ok (.isub, 1) := by decide +kernel
theorem dX11_readDigits_138 : decode cX11_readDigits 138 = .ok (.iload_n 3, 1) := by decide +kernel
theorem dX11_readDigits_139 : decode cX11_readDigits 139 = .ok (.invokevirtual 139, 3) := by decide +kernel
theorem dX11_readDigits_142 : decode cX11_readDigits 142 = .ok (.iload_n 2, 1) := by decide +kernel
theorem dX11_readDigits_143 : decode cX11_readDigits 143 = .ok (.ireturn, 1) := by decide +kernel
set_option maxRecDepth 20000 in
theorem ggX11_readTime_X11_byteAt : GoodIn wsX11_readTime wsX11_byteAt := goodIn_r _ [5, 6, 7, 34, 35, 36, 37, 38, 39, 40, 41, 42, 43, 44, 45, 46, 47, 48, 49, 50, 51, 52, 53, 54, 55, 56, 57, 58, 59, 60, 61, 62, 63, 64, 65, 66, 67, 68, 69, 70] (by decide +kernel) (by decide +kernel)
set_option maxRecDepth 20000 in
theorem gX11_readTime_X11_byteAt : GoodIn wsX11_readTime (wsV RX11 136 RX11 yX11_byteAt wsX11_byteAt) := goodIn_app (goodIn_of _ (by decide +kernel)) ggX11_readTime_X11_byteAt
set_option maxRecDepth 20000 in
theorem ggX11_readTime_X11_isLetter : GoodIn wsX11_readTime wsX11_isLetter := goodIn_r _ [10, 11, 12, 4, 13] (by decide +kernel) (by decide +kernel)
set_option maxRecDepth 20000 in
theorem gX11_readTime_X11_isLetter : GoodIn wsX11_readTime (va_wsS RX11 96 yX11_isLetter wsX11_isLetter) := goodIn_app (goodIn_of _ (by decide +kernel)) ggX11_readTime_X11_isLetter
set_option maxRecDepth 20000 in
theorem ggX11_readTime_X11_folded : GoodIn wsX11_readTime wsX11_folded := goodIn_r _ [17, 18, 11, 12, 4, 13, 34, 35, 36, 37, 38, 39, 40, 41, 42, 43, 44, 45, 46, 47, 48, 49, 50, 51, 52, 53, 54, 55, 56, 57, 58, 59, 60, 61, 62, 63, 64, 65, 66, 67, 68, 69, 70] (by decide +kernel) (by decide +kernel)
set_option maxRecDepth 20000 in
theorem gX11_readTime_X11_folded : GoodIn wsX11_readTime (wsV RX11 103 RX11 yX11_folded wsX11_folded) := goodIn_app (goodIn_of _ (by decide +kernel)) ggX11_readTime_X11_folded
set_option maxRecDepth 20000 in
theorem ggX11_readTime_X11_in : GoodIn wsX11_readTime wsX11_in := goodIn_r _ [13] (by decide +kernel) (by decide +kernel)
set_option maxRecDepth 20000 in
theorem gX11_readTime_X11_in : GoodIn wsX11_readTime (va_wsS RX11 86 yX11_in wsX11_in) := goodIn_app (goodIn_of _ (by decide +kernel)) ggX11_readTime_X11_in
set_option maxRecDepth 20000 in
theorem ggX11_readTime_X11_numberOf : GoodIn wsX11_readTime wsX11_numberOf := goodIn_r _ [22, 7, 23, 34, 35, 36, 37, 38, 39, 40, 41, 42, 43, 44, 45, 46, 47, 48, 49, 50, 51, 52, 53, 54, 55, 56, 57, 58, 59, 60, 61, 62, 63, 64, 65, 66, 67, 68, 69, 70] (by decide +kernel) (by decide +kernel)
set_option maxRecDepth 20000 in
theorem gX11_readTime_X11_numberOf : GoodIn wsX11_readTime (wsV RX11 147 RX11 yX11_numberOf wsX11_numberOf) := goodIn_app (goodIn_of _ (by decide +kernel)) ggX11_readTime_X11_numberOf
set_option maxRecDepth 20000 in
theorem ggX11_readTime_X11_add : GoodIn wsX11_readTime wsX11_add := goodIn_r _ [27, 28, 29, 30, 31, 32, 33, 34, 35, 36, 37, 38, 39, 40, 41, 42, 43, 44, 45, 46, 47, 48, 49, 50, 51, 52, 53, 54, 55, 56, 57, 58, 59, 60, 61, 62, 63, 64, 65, 66, 67, 68, 69, 70] (by decide +kernel) (by decide +kernel)
set_option maxRecDepth 20000 in
theorem gX11_readTime_X11_add : GoodIn wsX11_readTime (wsV RX11 139 RX11 yX11_add wsX11_add) := goodIn_app (goodIn_of _ (by decide +kernel)) ggX11_readTime_X11_add
theorem dX11_readTime_0 : decode cX11_readTime 0 = .ok (.iload_n 2, 1) := by decide +kernel
theorem dX11_readTime_1 : decode cX11_readTime 1 = .ok (.iconst 3, 1) := by decide +kernel
theorem dX11_readTime_2 : decode cX11_readTime 2 = .ok (.iadd, 1) := by decide +kernel
theorem dX11_readTime_3 : decode cX11_readTime 3 = .ok (.istore 4, 2) := by decide +kernel
theorem dX11_readTime_5 : decode cX11_readTime 5 = .ok (.iload_n 3, 1) := by decide +kernel
theorem dX11_readTime_6 : decode cX11_readTime 6 = .ok (.istore 5, 2) := by decide +kernel
theorem dX11_readTime_8 : decode cX11_readTime 8 = .ok (.aload_n 0, 1) := by decide +kernel
theorem dX11_readTime_9 : decode cX11_readTime 9 = .ok (.iload 4, 2) := by decide +kernel
theorem dX11_readTime_11 : decode cX11_readTime 11 = .ok (.invokevirtual 136, 3) := by decide +kernel
theorem dX11_readTime_14 : decode cX11_readTime 14 = .ok (.invokestatic 96, 3) := by decide +kernel
theorem dX11_readTime_17 : decode cX11_readTime 17 = .ok (.ifCond .eq 16, 3) := by decide +kernel
theorem dX11_readTime_20 : decode cX11_readTime 20 = .ok (.aload_n 0, 1) := by decide +kernel
theorem dX11_readTime_21 : decode cX11_readTime 21 = .ok (.aload_n 0, 1) := by decide +kernel
theorem dX11_readTime_22 : decode cX11_readTime 22 = .ok (.iload 4, 2) := by decide +kernel
theorem dX11_readTime_24 : decode cX11_readTime 24 = .ok (.invokevirtual 136, 3) := by decide +kernel
theorem dX11_readTime_27 : decode cX11_readTime 27 = .ok (.invokevirtual 103, 3) := by decide +kernel
theorem dX11_readTime_30 : decode cX11_readTime 30 = .ok (.goto 4, 3) := by decide +kernel
theorem dX11_readTime_33 : decode cX11_readTime 33 = .ok (.iconst 0, 1) := by decide +kernel
theorem dX11_readTime_34 : decode cX11_readTime 34 = .ok (.istore 6, 2) := by decide +kernel
theorem dX11_readTime_36 : decode cX11_readTime 36 = .ok (.aload_n 0, 1) := by decide +kernel
theorem dX11_readTime_37 : decode cX11_readTime 37 = .ok (.iload 4, 2) := by decide +kernel
theorem dX11_readTime_39 : decode cX11_readTime 39 = .ok (.iconst 1, 1) := by decide +kernel
theorem dX11_readTime_40 : decode cX11_readTime 40 = .ok (.iadd, 1) := by decide +kernel
theorem dX11_readTime_41 : decode cX11_readTime 41 = .ok (.invokevirtual 136, 3) := by decide +kernel
theorem dX11_readTime_44 : decode cX11_readTime 44 = .ok (.invokestatic 96, 3) := by decide +kernel
theorem dX11_readTime_47 : decode cX11_readTime 47 = .ok (.ifCond .eq 18, 3) := by decide +kernel
theorem dX11_readTime_50 : decode cX11_readTime 50 = .ok (.aload_n 0, 1) := by decide +kernel
theorem dX11_readTime_51 : decode cX11_readTime 51 = .ok (.aload_n 0, 1) := by decide +kernel
theorem dX11_readTime_52 : decode cX11_readTime 52 = .ok (.iload 4, 2) := by decide +kernel
theorem dX11_readTime_54 : decode cX11_readTime 54 = .ok (.iconst 1, 1) := by decide +kernel
theorem dX11_readTime_55 : decode cX11_readTime 55 = .ok (.iadd, 1) := by decide +kernel
theorem dX11_readTime_56 : decode cX11_readTime 56 = .ok (.invokevirtual 136, 3) := by decide +kernel
theorem dX11_readTime_59 : decode cX11_readTime 59 = .ok (.invokevirtual 103, 3) := by decide +kernel
theorem dX11_readTime_62 : decode cX11_readTime 62 = .ok (.goto 4, 3) := by decide +kernel
theorem dX11_readTime_65 : decode cX11_readTime 65 = .ok (.iconst 0, 1) := by decide +kernel
theorem dX11_readTime_66 : decode cX11_readTime 66 = .ok (.istore 7, 2) := by decide +kernel
theorem dX11_readTime_68 : decode cX11_readTime 68 = .ok (.iload 6, 2) := by decide +kernel
theorem dX11_readTime_70 : decode cX11_readTime 70 = .ok (.bipush 97, 2) := by decide +kernel
theorem dX11_readTime_72 : decode cX11_readTime 72 = .ok (.if_icmp .eq 10, 3) := by decide +kernel
theorem dX11_readTime_75 : decode cX11_readTime 75 = .ok (.iload 6, 2) := by decide +kernel
theorem dX11_readTime_77 : decode cX11_readTime 77 = .ok (.bipush 112, 2) := by decide +kernel
theorem dX11_readTime_79 : decode cX11_readTime 79 = .ok (.if_icmp .ne 57, 3) := by decide +kernel
theorem dX11_readTime_82 : decode cX11_readTime 82 = .ok (.iload 7, 2) := by decide +kernel
theorem dX11_readTime_84 : decode cX11_readTime 84 = .ok (.bipush 109, 2) := by decide +kernel
theorem dX11_readTime_86 : decode cX11_readTime 86 = .ok (.if_icmp .ne 50, 3) := by decide +kernel
theorem dX11_readTime_89 : decode cX11_readTime 89 = .ok (.aload_n 0, 1) := by decide +kernel
theorem dX11_readTime_90 : decode cX11_readTime 90 = .ok (.iload 4, 2) := by decide +kernel
theorem dX11_readTime_92 : decode cX11_readTime 92 = .ok (.iconst 2, 1) := by decide +kernel
theorem dX11_readTime_93 : decode cX11_readTime 93 = .ok (.iadd, 1) := by decide +kernel
theorem dX11_readTime_94 : decode cX11_readTime 94 = .ok (.invokevirtual 136, 3) := by decide +kernel
theorem dX11_readTime_97 : decode cX11_readTime 97 = .ok (.invokestatic 96, 3) := by decide +kernel
theorem dX11_readTime_100 : decode cX11_readTime 100 = .ok (.ifCond .ne 36, 3) := by decide +kernel
theorem dX11_readTime_103 : decode cX11_readTime 103 = .ok (.iload_n 3, 1) := by decide +kernel
theorem dX11_readTime_104 : decode cX11_readTime 104 = .ok (.iconst 1, 1) := by decide +kernel
theorem dX11_readTime_105 : decode cX11_readTime 105 = .ok (.bipush 12, 2) := by decide +kernel
theorem dX11_readTime_107 : decode cX11_readTime 107 = .ok (.invokestatic 86, 3) := by decide +kernel
theorem dX11_readTime_110 : decode cX11_readTime 110 = .ok (.ifCond .eq 26, 3) := by decide +kernel
theorem dX11_readTime_113 : decode cX11_readTime 113 = .ok (.iload_n 3, 1) := by decide +kernel
theorem dX11_readTime_114 : decode cX11_readTime 114 = .ok (.bipush 12, 2) := by decide +kernel
theorem dX11_readTime_116 : decode cX11_readTime 116 = .ok (.irem, 1) := by decide +kernel
theorem dX11_readTime_117 : decode cX11_readTime 117 = .ok (.iload 6, 2) := by decide +kernel
theorem dX11_readTime_119 : decode cX11_readTime 119 = .ok (.bipush 112, 2) := by decide +kernel
theorem dX11_readTime_121 : decode cX11_readTime 121 = .ok (.if_icmp .ne 8, 3) := by decide +kernel
theorem dX11_readTime_124 : decode cX11_readTime 124 = .ok (.bipush 12, 2) := by decide +kernel
theorem dX11_readTime_126 : decode cX11_readTime 126 = .ok (.goto 4, 3) := by decide +kernel
theorem dX11_readTime_129 : decode cX11_readTime 129 = .ok (.iconst 0, 1) := by decide +kernel
theorem dX11_readTime_130 : decode cX11_readTime 130 = .ok (.iadd, 1) := by decide +kernel
theorem dX11_readTime_131 : decode cX11_readTime 131 = .ok (.istore 5, 2) := by decide +kernel
theorem dX11_readTime_133 : decode cX11_readTime 133 = .ok (.iinc 4 2, 3) := by decide +kernel
theorem dX11_readTime_136 : decode cX11_readTime 136 = .ok (.aload_n 0, 1) := by decide +kernel
theorem dX11_readTime_137 : decode cX11_readTime 137 = .ok (.iconst 3, 1) := by decide +kernel
theorem dX11_readTime_138 : decode cX11_readTime 138 = .ok (.iload_n 1, 1) := by decide +kernel
theorem dX11_readTime_139 : decode cX11_readTime 139 = .ok (.iload 4, 2) := by decide +kernel
theorem dX11_readTime_141 : decode cX11_readTime 141 = .ok (.iload_n 1, 1) := by decide +kernel
theorem dX11_readTime_142 : decode cX11_readTime 142 = .ok (.isub, 1) := by decide +kernel
theorem dX11_readTime_143 : decode cX11_readTime 143 = .ok (.bipush 60, 2) := by decide +kernel
theorem dX11_readTime_145 : decode cX11_readTime 145 = .ok (.iload 5, 2) := by decide +kernel
theorem dX11_readTime_147 : decode cX11_readTime 147 = .ok (.imul, 1) := by decide +kernel
theorem dX11_readTime_148 : decode cX11_readTime 148 = .ok (.aload_n 0, 1) := by decide +kernel
theorem dX11_readTime_149 : decode cX11_readTime 149 = .ok (.iload_n 2, 1) := by decide +kernel
theorem dX11_readTime_150 : decode cX11_readTime 150 = .ok (.iconst 1, 1) := by decide +kernel
theorem dX11_readTime_151 : decode cX11_readTime 151 = .ok (.iadd, 1) := by decide +kernel
theorem dX11_readTime_152 : decode cX11_readTime 152 = .ok (.iload_n 2, 1) := by decide +kernel
theorem dX11_readTime_153 : decode cX11_readTime 153 = .ok (.iconst 3, 1) := by decide +kernel
theorem dX11_readTime_154 : decode cX11_readTime 154 = .ok (.iadd, 1) := by decide +kernel
theorem dX11_readTime_155 : decode cX11_readTime 155 = .ok (.invokevirtual 147, 3) := by decide +kernel
theorem dX11_readTime_158 : decode cX11_readTime 158 = .ok (.iadd, 1) := by decide +kernel
theorem dX11_readTime_159 : decode cX11_readTime 159 = .ok (.invokevirtual 139, 3) := by decide +kernel
theorem dX11_readTime_162 : decode cX11_readTime 162 = .ok (.iload 4, 2) := by decide +kernel
theorem dX11_readTime_164 : decode cX11_readTime 164 = .ok (.ireturn, 1) := by decide +kernel
set_option maxRecDepth 20000 in
theorem ggX11_readQuoted_X11_add : GoodIn wsX11_readQuoted wsX11_add := goodIn_r _ [7, 8, 9, 10, 11, 12, 13, 14, 15, 16, 17, 18, 19, 20, 21, 22, 23, 24, 25, 26, 27, 28, 29, 30, 31, 32, 33, 34, 35, 36, 37, 38, 39, 40, 41, 42, 43, 44, 45, 46, 47, 48, 49, 50] (by decide +kernel) (by decide +kernel)
set_option maxRecDepth 20000 in
theorem gX11_readQuoted_X11_add : GoodIn wsX11_readQuoted (wsV RX11 139 RX11 yX11_add wsX11_add) := goodIn_app (goodIn_of _ (by decide +kernel)) ggX11_readQuoted_X11_add
theorem dX11_readQuoted_0 : decode cX11_readQuoted 0 = .ok (.iload_n 1, 1) := by decide +kernel
theorem dX11_readQuoted_1 : decode cX11_readQuoted 1 = .ok (.iconst 1, 1) := by decide +kernel
theorem dX11_readQuoted_2 : decode cX11_readQuoted 2 = .ok (.iadd, 1) := by decide +kernel
theorem dX11_readQuoted_3 : decode cX11_readQuoted 3 = .ok (.istore_n 2, 1) := by decide +kernel
theorem dX11_readQuoted_4 : decode cX11_readQuoted 4 = .ok (.iload_n 2, 1) := by decide +kernel
theorem dX11_readQuoted_5 : decode cX11_readQuoted 5 = .ok (.aload_n 0, 1) := by decide +kernel
theorem dX11_readQuoted_6 : decode cX11_readQuoted 6 = .ok (.getfield 126, 3) := by decide +kernel
theorem dX11_readQuoted_9 : decode cX11_readQuoted 9 = .ok (.if_icmp .ge 20, 3) := by decide +kernel
theorem dX11_readQuoted_12 : decode cX11_readQuoted 12 = .ok (.aload_n 0, 1) := by decide +kernel
theorem dX11_readQuoted_13 : decode cX11_readQuoted 13 = .ok (.getfield 43, 3) := by decide +kernel
theorem dX11_readQuoted_16 : decode cX11_readQuoted 16 = .ok (.iload_n 2, 1) := by decide +kernel
theorem dX11_readQuoted_17 : decode cX11_readQuoted 17 = .ok (.iaload, 1) := by decide +kernel
theorem dX11_readQuoted_18 : decode cX11_readQuoted 18 = .ok (.bipush 34, 2) := by decide +kernel
theorem dX11_readQuoted_20 : decode cX11_readQuoted 20 = .ok (.if_icmp .eq 9, 3) := by decide +kernel
theorem dX11_readQuoted_23 : decode cX11_readQuoted 23 = .ok (.iinc 2 1, 3) := by decide +kernel
theorem dX11_readQuoted_26 : decode cX11_readQuoted 26 = .ok (.goto (-22), 3) := by decide +kernel
theorem dX11_readQuoted_29 : decode cX11_readQuoted 29 = .ok (.iload_n 2, 1) := by decide +kernel
theorem dX11_readQuoted_30 : decode cX11_readQuoted 30 = .ok (.aload_n 0, 1) := by decide +kernel
theorem dX11_readQuoted_31 : decode cX11_readQuoted 31 = .ok (.getfield 126, 3) := by decide +kernel
theorem dX11_readQuoted_34 : decode cX11_readQuoted 34 = .ok (.if_icmp .ge 23, 3) := by decide +kernel
theorem dX11_readQuoted_37 : decode cX11_readQuoted 37 = .ok (.aload_n 0, 1) := by decide +kernel
theorem dX11_readQuoted_38 : decode cX11_readQuoted 38 = .ok (.iconst 4, 1) := by decide +kernel
theorem dX11_readQuoted_39 : decode cX11_readQuoted 39 = .ok (.iload_n 1, 1) := by decide +kernel
theorem dX11_readQuoted_40 : decode cX11_readQuoted 40 = .ok (.iload_n 2, 1) := by decide +kernel
theorem dX11_readQuoted_41 : decode cX11_readQuoted 41 = .ok (.iconst 1, 1) := by decide +kernel
theorem dX11_readQuoted_42 : decode cX11_readQuoted 42 = .ok (.iadd, 1) := by decide +kernel
theorem dX11_readQuoted_43 : decode cX11_readQuoted 43 = .ok (.iload_n 1, 1) := by decide +kernel
theorem dX11_readQuoted_44 : decode cX11_readQuoted 44 = .ok (.isub, 1) := by decide +kernel
theorem dX11_readQuoted_45 : decode cX11_readQuoted 45 = .ok (.iload_n 2, 1) := by decide +kernel
theorem dX11_readQuoted_46 : decode cX11_readQuoted 46 = .ok (.iload_n 1, 1) := by decide +kernel
theorem dX11_readQuoted_47 : decode cX11_readQuoted 47 = .ok (.isub, 1) := by decide +kernel
theorem dX11_readQuoted_48 : decode cX11_readQuoted 48 = .ok (.iconst 1, 1) := by decide +kernel
theorem dX11_readQuoted_49 : decode cX11_readQuoted 49 = .ok (.isub, 1) := by decide +kernel
theorem dX11_readQuoted_50 : decode cX11_readQuoted 50 = .ok (.invokevirtual 139, 3) := by decide +kernel
theorem dX11_readQuoted_53 : decode cX11_readQuoted 53 = .ok (.iload_n 2, 1) := by decide +kernel
theorem dX11_readQuoted_54 : decode cX11_readQuoted 54 = .ok (.iconst 1, 1) := by decide +kernel
theorem dX11_readQuoted_55 : decode cX11_readQuoted 55 = .ok (.iadd, 1) := by decide +kernel
theorem dX11_readQuoted_56 : decode cX11_readQuoted 56 = .ok (.ireturn, 1) := by decide +kernel
theorem dX11_readQuoted_57 : decode cX11_readQuoted 57 = .ok (.aload_n 0, 1) := by decide +kernel
theorem dX11_readQuoted_58 : decode cX11_readQuoted 58 = .ok (.bipush 6, 2) := by decide +kernel
theorem dX11_readQuoted_60 : decode cX11_readQuoted 60 = .ok (.iload_n 1, 1) := by decide +kernel
theorem dX11_readQuoted_61 : decode cX11_readQuoted 61 = .ok (.aload_n 0, 1) := by decide +kernel
theorem dX11_readQuoted_62 : decode cX11_readQuoted 62 = .ok (.getfield 126, 3) := by decide +kernel
theorem dX11_readQuoted_65 : decode cX11_readQuoted 65 = .ok (.iload_n 1, 1) := by decide +kernel
theorem dX11_readQuoted_66 : decode cX11_readQuoted 66 = .ok (.isub, 1) := by decide +kernel
theorem dX11_readQuoted_67 : decode cX11_readQuoted 67 = .ok (.iconst (-1), 1) := by decide +kernel
theorem dX11_readQuoted_68 : decode cX11_readQuoted 68 = .ok (.invokevirtual 139, 3) := by decide +kernel
theorem dX11_readQuoted_71 : decode cX11_readQuoted 71 = .ok (.aload_n 0, 1) := by decide +kernel
theorem dX11_readQuoted_72 : decode cX11_readQuoted 72 = .ok (.getfield 126, 3) := by decide +kernel
theorem dX11_readQuoted_75 : decode cX11_readQuoted 75 = .ok (.ireturn, 1) := by decide +kernel
theorem dX11_isStop_0 : decode cX11_isStop 0 = .ok (.iload_n 0, 1) := by decide +kernel
theorem dX11_isStop_1 : decode cX11_isStop 1 = .ok (.bipush 46, 2) := by decide +kernel
theorem dX11_isStop_3 : decode cX11_isStop 3 = .ok (.if_icmp .eq 27, 3) := by decide +kernel
theorem dX11_isStop_6 : decode cX11_isStop 6 = .ok (.iload_n 0, 1) := by decide +kernel
theorem dX11_isStop_7 : decode cX11_isStop 7 = .ok (.bipush 44, 2) := by decide +kernel
theorem dX11_isStop_9 : decode cX11_isStop 9 = .ok (.if_icmp .eq 21, 3) := by decide +kernel
theorem dX11_isStop_12 : decode cX11_isStop 12 = .ok (.iload_n 0, 1) := by decide +kernel
theorem dX11_isStop_13 : decode cX11_isStop 13 = .ok (.bipush 59, 2) := by decide +kernel
theorem dX11_isStop_15 : decode cX11_isStop 15 = .ok (.if_icmp .eq 15, 3) := by decide +kernel
theorem dX11_isStop_18 : decode cX11_isStop 18 = .ok (.iload_n 0, 1) := by decide +kernel
theorem dX11_isStop_19 : decode cX11_isStop 19 = .ok (.bipush 33, 2) := by decide +kernel
theorem dX11_isStop_21 : decode cX11_isStop 21 = .ok (.if_icmp .eq 9, 3) := by decide +kernel
theorem dX11_isStop_24 : decode cX11_isStop 24 = .ok (.iload_n 0, 1) := by decide +kernel
theorem dX11_isStop_25 : decode cX11_isStop 25 = .ok (.bipush 63, 2) := by decide +kernel
theorem dX11_isStop_27 : decode cX11_isStop 27 = .ok (.if_icmp .ne 7, 3) := by decide +kernel
theorem dX11_isStop_30 : decode cX11_isStop 30 = .ok (.iconst 1, 1) := by decide +kernel
theorem dX11_isStop_31 : decode cX11_isStop 31 = .ok (.goto 4, 3) := by decide +kernel
theorem dX11_isStop_34 : decode cX11_isStop 34 = .ok (.iconst 0, 1) := by decide +kernel
theorem dX11_isStop_35 : decode cX11_isStop 35 = .ok (.ireturn, 1) := by decide +kernel
set_option maxRecDepth 20000 in
theorem ggX11_isOther_X11_isLetter : GoodIn wsX11_isOther wsX11_isLetter := goodIn_r _ [4, 5, 6, 3, 7] (by decide +kernel) (by decide +kernel)
set_option maxRecDepth 20000 in
theorem gX11_isOther_X11_isLetter : GoodIn wsX11_isOther (va_wsS RX11 96 yX11_isLetter wsX11_isLetter) := goodIn_app (goodIn_of _ (by decide +kernel)) ggX11_isOther_X11_isLetter
set_option maxRecDepth 20000 in
theorem ggX11_isOther_X11_isDigit : GoodIn wsX11_isOther wsX11_isDigit := goodIn_r _ [10, 5, 6, 3, 7] (by decide +kernel) (by decide +kernel)
set_option maxRecDepth 20000 in
theorem gX11_isOther_X11_isDigit : GoodIn wsX11_isOther (va_wsS RX11 144 yX11_isDigit wsX11_isDigit) := goodIn_app (goodIn_of _ (by decide +kernel)) ggX11_isOther_X11_isDigit
set_option maxRecDepth 20000 in
theorem ggX11_isOther_X11_isStop : GoodIn wsX11_isOther wsX11_isStop := goodIn_r _ [13] (by decide +kernel) (by decide +kernel)
set_option maxRecDepth 20000 in
theorem gX11_isOther_X11_isStop : GoodIn wsX11_isOther (va_wsS RX11 155 yX11_isStop wsX11_isStop) := goodIn_app (goodIn_of _ (by decide +kernel)) ggX11_isOther_X11_isStop
theorem dX11_isOther_0 : decode cX11_isOther 0 = .ok (.iload_n 0, 1) := by decide +kernel
theorem dX11_isOther_1 : decode cX11_isOther 1 = .ok (.ifCond .lt 40, 3) := by decide +kernel
theorem dX11_isOther_4 : decode cX11_isOther 4 = .ok (.iload_n 0, 1) := by decide +kernel
theorem dX11_isOther_5 : decode cX11_isOther 5 = .ok (.invokestatic 96, 3) := by decide +kernel
theorem dX11_isOther_8 : decode cX11_isOther 8 = .ok (.ifCond .ne 33, 3) := by decide +kernel
theorem dX11_isOther_11 : decode cX11_isOther 11 = .ok (.iload_n 0, 1) := by decide +kernel
theorem dX11_isOther_12 : decode cX11_isOther 12 = .ok (.invokestatic 144, 3) := by decide +kernel
theorem dX11_isOther_15 : decode cX11_isOther 15 = .ok (.ifCond .ne 26, 3) := by decide +kernel
theorem dX11_isOther_18 : decode cX11_isOther 18 = .ok (.iload_n 0, 1) := by decide +kernel
theorem dX11_isOther_19 : decode cX11_isOther 19 = .ok (.bipush 32, 2) := by decide +kernel
theorem dX11_isOther_21 : decode cX11_isOther 21 = .ok (.if_icmp .eq 20, 3) := by decide +kernel
theorem dX11_isOther_24 : decode cX11_isOther 24 = .ok (.iload_n 0, 1) := by decide +kernel
theorem dX11_isOther_25 : decode cX11_isOther 25 = .ok (.bipush 34, 2) := by decide +kernel
theorem dX11_isOther_27 : decode cX11_isOther 27 = .ok (.if_icmp .eq 14, 3) := by decide +kernel
theorem dX11_isOther_30 : decode cX11_isOther 30 = .ok (.iload_n 0, 1) := by decide +kernel
theorem dX11_isOther_31 : decode cX11_isOther 31 = .ok (.invokestatic 155, 3) := by decide +kernel
theorem dX11_isOther_34 : decode cX11_isOther 34 = .ok (.ifCond .ne 7, 3) := by decide +kernel
theorem dX11_isOther_37 : decode cX11_isOther 37 = .ok (.iconst 1, 1) := by decide +kernel
theorem dX11_isOther_38 : decode cX11_isOther 38 = .ok (.goto 4, 3) := by decide +kernel
theorem dX11_isOther_41 : decode cX11_isOther 41 = .ok (.iconst 0, 1) := by decide +kernel
theorem dX11_isOther_42 : decode cX11_isOther 42 = .ok (.ireturn, 1) := by decide +kernel
set_option maxRecDepth 20000 in
theorem ggX11_read_X11_in : GoodIn wsX11_read wsX11_in := goodIn_r _ [18] (by decide +kernel) (by decide +kernel)
set_option maxRecDepth 20000 in
theorem gX11_read_X11_in : GoodIn wsX11_read (va_wsS RX11 86 yX11_in wsX11_in) := goodIn_app (goodIn_of _ (by decide +kernel)) ggX11_read_X11_in
set_option maxRecDepth 20000 in
theorem ggX11_read_X11_isLetter : GoodIn wsX11_read wsX11_isLetter := goodIn_r _ [21, 15, 16, 17, 18] (by decide +kernel) (by decide +kernel)
set_option maxRecDepth 20000 in
theorem gX11_read_X11_isLetter : GoodIn wsX11_read (va_wsS RX11 96 yX11_isLetter wsX11_isLetter) := goodIn_app (goodIn_of _ (by decide +kernel)) ggX11_read_X11_isLetter
set_option maxRecDepth 20000 in
theorem ggX11_read_X11_readLetters : GoodIn wsX11_read wsX11_readLetters := goodIn_r _ [25, 4, 26, 27, 28, 29, 30, 31, 17, 32, 1, 19, 20, 21, 15, 16, 18, 33, 34, 35, 36, 37, 38, 39, 40, 41, 42, 43, 44, 45, 46, 47, 48, 49, 50, 51, 52, 53, 54, 2, 3, 7, 9, 11, 13, 81, 82, 83, 84, 85, 86, 87, 88, 89, 90, 91, 92, 93, 94, 95, 96, 97, 98, 99, 100, 101, 102, 103, 104, 105, 106, 107, 108, 109, 110, 111, 112, 113, 114, 115, 116, 117] (by decide +kernel) (by decide +kernel)
set_option maxRecDepth 20000 in
theorem gX11_read_X11_readLetters : GoodIn wsX11_read (wsV RX11 158 RX11 yX11_readLetters wsX11_readLetters) := goodIn_app (goodIn_of _ (by decide +kernel)) ggX11_read_X11_readLetters
set_option maxRecDepth 20000 in
theorem ggX11_read_X11_isDigit : GoodIn wsX11_read wsX11_isDigit := goodIn_r _ [57, 15, 16, 17, 18] (by decide +kernel) (by decide +kernel)
set_option maxRecDepth 20000 in
theorem gX11_read_X11_isDigit : GoodIn wsX11_read (va_wsS RX11 144 yX11_isDigit wsX11_isDigit) := goodIn_app (goodIn_of _ (by decide +kernel)) ggX11_read_X11_isDigit
set_option maxRecDepth 20000 in
theorem ggX11_read_X11_readDigits : GoodIn wsX11_read wsX11_readDigits := goodIn_r _ [61, 29, 30, 31, 17, 32, 1, 4, 55, 56, 57, 15, 16, 18, 62, 63, 64, 65, 66, 67, 68, 69, 70, 19, 20, 21, 46, 47, 48, 49, 50, 51, 52, 53, 54, 2, 3, 7, 9, 11, 13, 81, 82, 83, 84, 85, 86, 87, 88, 89, 90, 91, 92, 93, 94, 95, 96, 97, 98, 99, 100, 101, 102, 103, 104, 105, 106, 107, 108, 109, 110, 111, 112, 113, 114, 115, 116, 117] (by decide +kernel) (by decide +kernel)
set_option maxRecDepth 20000 in
theorem gX11_read_X11_readDigits : GoodIn wsX11_read (wsV RX11 161 RX11 yX11_readDigits wsX11_readDigits) := goodIn_app (goodIn_of _ (by decide +kernel)) ggX11_read_X11_readDigits
set_option maxRecDepth 20000 in
theorem ggX11_read_X11_readQuoted : GoodIn wsX11_read wsX11_readQuoted := goodIn_r _ [74, 1, 4, 51, 52, 53, 17, 54, 2, 3, 7, 9, 11, 13, 81, 82, 83, 84, 85, 86, 87, 88, 89, 90, 91, 92, 93, 94, 95, 96, 97, 98, 99, 100, 101, 102, 103, 104, 105, 106, 107, 108, 109, 110, 111, 112, 113, 114, 115, 116, 117] (by decide +kernel) (by decide +kernel)
set_option maxRecDepth 20000 in
theorem gX11_read_X11_readQuoted : GoodIn wsX11_read (wsV RX11 164 RX11 yX11_readQuoted wsX11_readQuoted) := goodIn_app (goodIn_of _ (by decide +kernel)) ggX11_read_X11_readQuoted
set_option maxRecDepth 20000 in
theorem ggX11_read_X11_isStop : GoodIn wsX11_read wsX11_isStop := goodIn_r _ [77] (by decide +kernel) (by decide +kernel)
set_option maxRecDepth 20000 in
theorem gX11_read_X11_isStop : GoodIn wsX11_read (va_wsS RX11 155 yX11_isStop wsX11_isStop) := goodIn_app (goodIn_of _ (by decide +kernel)) ggX11_read_X11_isStop
set_option maxRecDepth 20000 in
theorem ggX11_read_X11_add : GoodIn wsX11_read wsX11_add := goodIn_r _ [54, 2, 3, 7, 9, 11, 13, 81, 82, 83, 84, 85, 86, 87, 88, 89, 90, 91, 92, 93, 94, 95, 96, 97, 98, 99, 100, 101, 102, 103, 104, 105, 106, 107, 108, 109, 110, 111, 112, 113, 114, 115, 116, 117] (by decide +kernel) (by decide +kernel)
set_option maxRecDepth 20000 in
theorem gX11_read_X11_add : GoodIn wsX11_read (wsV RX11 139 RX11 yX11_add wsX11_add) := goodIn_app (goodIn_of _ (by decide +kernel)) ggX11_read_X11_add
set_option maxRecDepth 20000 in
theorem ggX11_read_X11_byteAt : GoodIn wsX11_read wsX11_byteAt := goodIn_r _ [32, 1, 4, 81, 82, 83, 84, 85, 86, 87, 88, 89, 90, 91, 92, 93, 94, 95, 96, 97, 98, 99, 100, 101, 102, 103, 104, 105, 106, 107, 108, 109, 110, 111, 112, 113, 114, 115, 116, 117] (by decide +kernel) (by decide +kernel)
set_option maxRecDepth 20000 in
theorem gX11_read_X11_byteAt : GoodIn wsX11_read (wsV RX11 136 RX11 yX11_byteAt wsX11_byteAt) := goodIn_app (goodIn_of _ (by decide +kernel)) ggX11_read_X11_byteAt
set_option maxRecDepth 20000 in
theorem ggX11_read_X11_isOther : GoodIn wsX11_read wsX11_isOther := goodIn_r _ [80, 19, 20, 17, 21, 15, 16, 18, 55, 56, 57, 75, 76, 77] (by decide +kernel) (by decide +kernel)
set_option maxRecDepth 20000 in
theorem gX11_read_X11_isOther : GoodIn wsX11_read (va_wsS RX11 167 yX11_isOther wsX11_isOther) := goodIn_app (goodIn_of _ (by decide +kernel)) ggX11_read_X11_isOther
theorem dX11_read_0 : decode cX11_read 0 = .ok (.iload_n 1, 1) := by decide +kernel
theorem dX11_read_1 : decode cX11_read 1 = .ok (.iconst 0, 1) := by decide +kernel
theorem dX11_read_2 : decode cX11_read 2 = .ok (.iconst 2, 1) := by decide +kernel
theorem dX11_read_3 : decode cX11_read 3 = .ok (.invokestatic 86, 3) := by decide +kernel
theorem dX11_read_6 : decode cX11_read 6 = .ok (.ifCond .ne 11, 3) := by decide +kernel
theorem dX11_read_9 : decode cX11_read 9 = .ok (.aload_n 0, 1) := by decide +kernel
theorem dX11_read_10 : decode cX11_read 10 = .ok (.iconst 0, 1) := by decide +kernel
theorem dX11_read_11 : decode cX11_read 11 = .ok (.putfield 126, 3) := by decide +kernel
theorem dX11_read_14 : decode cX11_read 14 = .ok (.bipush (-3), 2) := by decide +kernel
theorem dX11_read_16 : decode cX11_read 16 = .ok (.ireturn, 1) := by decide +kernel
theorem dX11_read_17 : decode cX11_read 17 = .ok (.aload_n 0, 1) := by decide +kernel
theorem dX11_read_18 : decode cX11_read 18 = .ok (.iconst 0, 1) := by decide +kernel
theorem dX11_read_19 : decode cX11_read 19 = .ok (.putfield 129, 3) := by decide +kernel
theorem dX11_read_22 : decode cX11_read 22 = .ok (.aload_n 0, 1) := by decide +kernel
theorem dX11_read_23 : decode cX11_read 23 = .ok (.iconst 0, 1) := by decide +kernel
theorem dX11_read_24 : decode cX11_read 24 = .ok (.putfield 132, 3) := by decide +kernel
theorem dX11_read_27 : decode cX11_read 27 = .ok (.iconst 0, 1) := by decide +kernel
theorem dX11_read_28 : decode cX11_read 28 = .ok (.istore_n 2, 1) := by decide +kernel
theorem dX11_read_29 : decode cX11_read 29 = .ok (.iload_n 2, 1) := by decide +kernel
theorem dX11_read_30 : decode cX11_read 30 = .ok (.aload_n 0, 1) := by decide +kernel
theorem dX11_read_31 : decode cX11_read 31 = .ok (.getfield 126, 3) := by decide +kernel
theorem dX11_read_34 : decode cX11_read 34 = .ok (.if_icmp .ge 137, 3) := by decide +kernel
theorem dX11_read_37 : decode cX11_read 37 = .ok (.aload_n 0, 1) := by decide +kernel
theorem dX11_read_38 : decode cX11_read 38 = .ok (.getfield 132, 3) := by decide +kernel
theorem dX11_read_41 : decode cX11_read 41 = .ok (.ifCond .ne 130, 3) := by decide +kernel
theorem dX11_read_44 : decode cX11_read 44 = .ok (.aload_n 0, 1) := by decide +kernel
theorem dX11_read_45 : decode cX11_read 45 = .ok (.getfield 43, 3) := by decide +kernel
theorem dX11_read_48 : decode cX11_read 48 = .ok (.iload_n 2, 1) := by decide +kernel
theorem dX11_read_49 : decode cX11_read 49 = .ok (.iaload, 1) := by decide +kernel
theorem dX11_read_50 : decode cX11_read 50 = .ok (.istore_n 3, 1) := by decide +kernel
theorem dX11_read_51 : decode cX11_read 51 = .ok (.iload_n 3, 1) := by decide +kernel
theorem dX11_read_52 : decode cX11_read 52 = .ok (.bipush 32, 2) := by decide +kernel
theorem dX11_read_54 : decode cX11_read 54 = .ok (.if_icmp .ne 9, 3) := by decide +kernel
theorem dX11_read_57 : decode cX11_read 57 = .ok (.iinc 2 1, 3) := by decide +kernel
theorem dX11_read_60 : decode cX11_read 60 = .ok (.goto 108, 3) := by decide +kernel
theorem dX11_read_63 : decode cX11_read 63 = .ok (.iload_n 3, 1) := by decide +kernel
theorem dX11_read_64 : decode cX11_read 64 = .ok (.invokestatic 96, 3) := by decide +kernel
theorem dX11_read_67 : decode cX11_read 67 = .ok (.ifCond .eq 13, 3) := by decide +kernel
theorem dX11_read_70 : decode cX11_read 70 = .ok (.aload_n 0, 1) := by decide +kernel
theorem dX11_read_71 : decode cX11_read 71 = .ok (.iload_n 2, 1) := by decide +kernel
theorem dX11_read_72 : decode cX11_read 72 = .ok (.iload_n 1, 1) := by decide +kernel
theorem dX11_read_73 : decode cX11_read 73 = .ok (.invokevirtual 158, 3) := by decide +kernel
theorem dX11_read_76 : decode cX11_read 76 = .ok (.istore_n 2, 1) := by decide +kernel
theorem dX11_read_77 : decode cX11_read 77 = .ok (.goto 91, 3) := by decide +kernel
theorem dX11_read_80 : decode cX11_read 80 = .ok (.iload_n 3, 1) := by decide +kernel
theorem dX11_read_81 : decode cX11_read 81 = .ok (.invokestatic 144, 3) := by decide +kernel
theorem dX11_read_84 : decode cX11_read 84 = .ok (.ifCond .eq 12, 3) := by decide +kernel
theorem dX11_read_87 : decode cX11_read 87 = .ok (.aload_n 0, 1) := by decide +kernel
theorem dX11_read_88 : decode cX11_read 88 = .ok (.iload_n 2, 1) := by decide +kernel
theorem dX11_read_89 : decode cX11_read 89 = .ok (.invokevirtual 161, 3) := by decide +kernel
theorem dX11_read_92 : decode cX11_read 92 = .ok (.istore_n 2, 1) := by decide +kernel
theorem dX11_read_93 : decode cX11_read 93 = .ok (.goto 75, 3) := by decide +kernel
theorem dX11_read_96 : decode cX11_read 96 = .ok (.iload_n 3, 1) := by decide +kernel
theorem dX11_read_97 : decode cX11_read 97 = .ok (.bipush 34, 2) := by decide +kernel
theorem dX11_read_99 : decode cX11_read 99 = .ok (.if_icmp .ne 12, 3) := by decide +kernel
theorem dX11_read_102 : decode cX11_read 102 = .ok (.aload_n 0, 1) := by decide +kernel
theorem dX11_read_103 : decode cX11_read 103 = .ok (.iload_n 2, 1) := by decide +kernel
theorem dX11_read_104 : decode cX11_read 104 = .ok (.invokevirtual 164, 3) := by decide +kernel
theorem dX11_read_107 : decode cX11_read 107 = .ok (.istore_n 2, 1) := by decide +kernel
theorem dX11_read_108 : decode cX11_read 108 = .ok (.goto 60, 3) := by decide +kernel
theorem dX11_read_111 : decode cX11_read 111 = .ok (.iload_n 3, 1) := by decide +kernel
theorem dX11_read_112 : decode cX11_read 112 = .ok (.invokestatic 155, 3) := by decide +kernel
theorem dX11_read_115 : decode cX11_read 115 = .ok (.ifCond .eq 17, 3) := by decide +kernel
theorem dX11_read_118 : decode cX11_read 118 = .ok (.aload_n 0, 1) := by decide +kernel
theorem dX11_read_119 : decode cX11_read 119 = .ok (.iconst 5, 1) := by decide +kernel
theorem dX11_read_120 : decode cX11_read 120 = .ok (.iload_n 2, 1) := by decide +kernel
theorem dX11_read_121 : decode cX11_read 121 = .ok (.iconst 1, 1) := by decide +kernel
theorem dX11_read_122 : decode cX11_read 122 = .ok (.iload_n 3, 1) := by decide +kernel
theorem dX11_read_123 : decode cX11_read 123 = .ok (.invokevirtual 139, 3) := by decide +kernel
theorem dX11_read_126 : decode cX11_read 126 = .ok (.iinc 2 1, 3) := by decide +kernel
theorem dX11_read_129 : decode cX11_read 129 = .ok (.goto 39, 3) := by decide +kernel
theorem dX11_read_132 : decode cX11_read 132 = .ok (.iload_n 2, 1) := by decide +kernel
theorem dX11_read_133 : decode cX11_read 133 = .ok (.istore 4, 2) := by decide +kernel
theorem dX11_read_135 : decode cX11_read 135 = .ok (.aload_n 0, 1) := by decide +kernel
theorem dX11_read_136 : decode cX11_read 136 = .ok (.iload 4, 2) := by decide +kernel
theorem dX11_read_138 : decode cX11_read 138 = .ok (.invokevirtual 136, 3) := by decide +kernel
theorem dX11_read_141 : decode cX11_read 141 = .ok (.invokestatic 167, 3) := by decide +kernel
theorem dX11_read_144 : decode cX11_read 144 = .ok (.ifCond .eq 9, 3) := by decide +kernel
theorem dX11_read_147 : decode cX11_read 147 = .ok (.iinc 4 1, 3) := by decide +kernel
theorem dX11_read_150 : decode cX11_read 150 = .ok (.goto (-15), 3) := by decide +kernel
theorem dX11_read_153 : decode cX11_read 153 = .ok (.aload_n 0, 1) := by decide +kernel
theorem dX11_read_154 : decode cX11_read 154 = .ok (.bipush 6, 2) := by decide +kernel
theorem dX11_read_156 : decode cX11_read 156 = .ok (.iload_n 2, 1) := by decide +kernel
theorem dX11_read_157 : decode cX11_read 157 = .ok (.iload 4, 2) := by decide +kernel
theorem dX11_read_159 : decode cX11_read 159 = .ok (.iload_n 2, 1) := by decide +kernel
theorem dX11_read_160 : decode cX11_read 160 = .ok (.isub, 1) := by decide +kernel
theorem dX11_read_161 : decode cX11_read 161 = .ok (.iconst (-1), 1) := by decide +kernel
theorem dX11_read_162 : decode cX11_read 162 = .ok (.invokevirtual 139, 3) := by decide +kernel
theorem dX11_read_165 : decode cX11_read 165 = .ok (.iload 4, 2) := by decide +kernel
theorem dX11_read_167 : decode cX11_read 167 = .ok (.istore_n 2, 1) := by decide +kernel
theorem dX11_read_168 : decode cX11_read 168 = .ok (.goto (-139), 3) := by decide +kernel
theorem dX11_read_171 : decode cX11_read 171 = .ok (.aload_n 0, 1) := by decide +kernel
theorem dX11_read_172 : decode cX11_read 172 = .ok (.getfield 132, 3) := by decide +kernel
theorem dX11_read_175 : decode cX11_read 175 = .ok (.ifCond .eq 11, 3) := by decide +kernel
theorem dX11_read_178 : decode cX11_read 178 = .ok (.aload_n 0, 1) := by decide +kernel
theorem dX11_read_179 : decode cX11_read 179 = .ok (.iconst 0, 1) := by decide +kernel
theorem dX11_read_180 : decode cX11_read 180 = .ok (.putfield 126, 3) := by decide +kernel
theorem dX11_read_183 : decode cX11_read 183 = .ok (.bipush (-5), 2) := by decide +kernel
theorem dX11_read_185 : decode cX11_read 185 = .ok (.ireturn, 1) := by decide +kernel
theorem dX11_read_186 : decode cX11_read 186 = .ok (.aload_n 0, 1) := by decide +kernel
theorem dX11_read_187 : decode cX11_read 187 = .ok (.aload_n 0, 1) := by decide +kernel
theorem dX11_read_188 : decode cX11_read 188 = .ok (.getfield 129, 3) := by decide +kernel
theorem dX11_read_191 : decode cX11_read 191 = .ok (.putfield 170, 3) := by decide +kernel
theorem dX11_read_194 : decode cX11_read 194 = .ok (.iconst 0, 1) := by decide +kernel
theorem dX11_read_195 : decode cX11_read 195 = .ok (.istore_n 3, 1) := by decide +kernel
theorem dX11_read_196 : decode cX11_read 196 = .ok (.iload_n 3, 1) := by decide +kernel
theorem dX11_read_197 : decode cX11_read 197 = .ok (.aload_n 0, 1) := by decide +kernel
theorem dX11_read_198 : decode cX11_read 198 = .ok (.getfield 129, 3) := by decide +kernel
theorem dX11_read_201 : decode cX11_read 201 = .ok (.if_icmp .ge 57, 3) := by decide +kernel
theorem dX11_read_204 : decode cX11_read 204 = .ok (.aload_n 0, 1) := by decide +kernel
theorem dX11_read_205 : decode cX11_read 205 = .ok (.getfield 46, 3) := by decide +kernel
theorem dX11_read_208 : decode cX11_read 208 = .ok (.iload_n 3, 1) := by decide +kernel
theorem dX11_read_209 : decode cX11_read 209 = .ok (.aload_n 0, 1) := by decide +kernel
theorem dX11_read_210 : decode cX11_read 210 = .ok (.getfield 58, 3) := by decide +kernel
theorem dX11_read_213 : decode cX11_read 213 = .ok (.iload_n 3, 1) := by decide +kernel
theorem dX11_read_214 : decode cX11_read 214 = .ok (.iaload, 1) := by decide +kernel
theorem dX11_read_215 : decode cX11_read 215 = .ok (.iastore, 1) := by decide +kernel
theorem dX11_read_216 : decode cX11_read 216 = .ok (.aload_n 0, 1) := by decide +kernel
theorem dX11_read_217 : decode cX11_read 217 = .ok (.getfield 49, 3) := by decide +kernel
theorem dX11_read_220 : decode cX11_read 220 = .ok (.iload_n 3, 1) := by decide +kernel
theorem dX11_read_221 : decode cX11_read 221 = .ok (.aload_n 0, 1) := by decide +kernel
theorem dX11_read_222 : decode cX11_read 222 = .ok (.getfield 61, 3) := by decide +kernel
theorem dX11_read_225 : decode cX11_read 225 = .ok (.iload_n 3, 1) := by decide +kernel
theorem dX11_read_226 : decode cX11_read 226 = .ok (.iaload, 1) := by decide +kernel
theorem dX11_read_227 : decode cX11_read 227 = .ok (.iastore, 1) := by decide +kernel
theorem dX11_read_228 : decode cX11_read 228 = .ok (.aload_n 0, 1) := by decide +kernel
theorem dX11_read_229 : decode cX11_read 229 = .ok (.getfield 52, 3) := by decide +kernel
theorem dX11_read_232 : decode cX11_read 232 = .ok (.iload_n 3, 1) := by decide +kernel
theorem dX11_read_233 : decode cX11_read 233 = .ok (.aload_n 0, 1) := by decide +kernel
theorem dX11_read_234 : decode cX11_read 234 = .ok (.getfield 64, 3) := by decide +kernel
end
section
theorem dX11_read_237 : decode cX11_read 237 = .ok (.iload_n 3, 1) := by decide +kernel
theorem dX11_read_238 : decode cX11_read 238 = .ok (.iaload, 1) := by decide +kernel
theorem dX11_read_239 : decode cX11_read 239 = .ok (.iastore, 1) := by decide +kernel
theorem dX11_read_240 : decode cX11_read 240 = .ok (.aload_n 0, 1) := by decide +kernel
theorem dX11_read_241 : decode cX11_read 241 = .ok (.getfield 55, 3) := by decide +kernel
theorem dX11_read_244 : decode cX11_read 244 = .ok (.iload_n 3, 1) := by decide +kernel
theorem dX11_read_245 : decode cX11_read 245 = .ok (.aload_n 0, 1) := by decide +kernel
theorem dX11_read_246 : decode cX11_read 246 = .ok (.getfield 67, 3) := by decide +kernel
theorem dX11_read_249 : decode cX11_read 249 = .ok (.iload_n 3, 1) := by decide +kernel
theorem dX11_read_250 : decode cX11_read 250 = .ok (.iaload, 1) := by decide +kernel
theorem dX11_read_251 : decode cX11_read 251 = .ok (.iastore, 1) := by decide +kernel
theorem dX11_read_252 : decode cX11_read 252 = .ok (.iinc 3 1, 3) := by decide +kernel
theorem dX11_read_255 : decode cX11_read 255 = .ok (.goto (-59), 3) := by decide +kernel
theorem dX11_read_258 : decode cX11_read 258 = .ok (.iconst 0, 1) := by decide +kernel
theorem dX11_read_259 : decode cX11_read 259 = .ok (.istore_n 3, 1) := by decide +kernel
theorem dX11_read_260 : decode cX11_read 260 = .ok (.iload_n 3, 1) := by decide +kernel
theorem dX11_read_261 : decode cX11_read 261 = .ok (.aload_n 0, 1) := by decide +kernel
theorem dX11_read_262 : decode cX11_read 262 = .ok (.getfield 126, 3) := by decide +kernel
theorem dX11_read_265 : decode cX11_read 265 = .ok (.if_icmp .ge 21, 3) := by decide +kernel
theorem dX11_read_268 : decode cX11_read 268 = .ok (.aload_n 0, 1) := by decide +kernel
theorem dX11_read_269 : decode cX11_read 269 = .ok (.getfield 70, 3) := by decide +kernel
theorem dX11_read_272 : decode cX11_read 272 = .ok (.iload_n 3, 1) := by decide +kernel
theorem dX11_read_273 : decode cX11_read 273 = .ok (.aload_n 0, 1) := by decide +kernel
theorem dX11_read_274 : decode cX11_read 274 = .ok (.getfield 43, 3) := by decide +kernel
theorem dX11_read_277 : decode cX11_read 277 = .ok (.iload_n 3, 1) := by decide +kernel
theorem dX11_read_278 : decode cX11_read 278 = .ok (.iaload, 1) := by decide +kernel
theorem dX11_read_279 : decode cX11_read 279 = .ok (.iastore, 1) := by decide +kernel
theorem dX11_read_280 : decode cX11_read 280 = .ok (.iinc 3 1, 3) := by decide +kernel
theorem dX11_read_283 : decode cX11_read 283 = .ok (.goto (-23), 3) := by decide +kernel
theorem dX11_read_286 : decode cX11_read 286 = .ok (.aload_n 0, 1) := by decide +kernel
theorem dX11_read_287 : decode cX11_read 287 = .ok (.iconst 0, 1) := by decide +kernel
theorem dX11_read_288 : decode cX11_read 288 = .ok (.putfield 126, 3) := by decide +kernel
theorem dX11_read_291 : decode cX11_read 291 = .ok (.aload_n 0, 1) := by decide +kernel
theorem dX11_read_292 : decode cX11_read 292 = .ok (.getfield 170, 3) := by decide +kernel
theorem dX11_read_295 : decode cX11_read 295 = .ok (.ireturn, 1) := by decide +kernel
set_option maxRecDepth 20000 in
theorem ggX11_isToken_X11_in : GoodIn wsX11_isToken wsX11_in := goodIn_r _ [5] (by decide +kernel) (by decide +kernel)
set_option maxRecDepth 20000 in
theorem gX11_isToken_X11_in : GoodIn wsX11_isToken (va_wsS RX11 86 yX11_in wsX11_in) := goodIn_app (goodIn_of _ (by decide +kernel)) ggX11_isToken_X11_in
theorem dX11_isToken_0 : decode cX11_isToken 0 = .ok (.iload_n 1, 1) := by decide +kernel
theorem dX11_isToken_1 : decode cX11_isToken 1 = .ok (.iconst 0, 1) := by decide +kernel
theorem dX11_isToken_2 : decode cX11_isToken 2 = .ok (.aload_n 0, 1) := by decide +kernel
theorem dX11_isToken_3 : decode cX11_isToken 3 = .ok (.getfield 170, 3) := by decide +kernel
theorem dX11_isToken_6 : decode cX11_isToken 6 = .ok (.iconst 1, 1) := by decide +kernel
theorem dX11_isToken_7 : decode cX11_isToken 7 = .ok (.isub, 1) := by decide +kernel
theorem dX11_isToken_8 : decode cX11_isToken 8 = .ok (.invokestatic 86, 3) := by decide +kernel
theorem dX11_isToken_11 : decode cX11_isToken 11 = .ok (.ireturn, 1) := by decide +kernel
set_option maxRecDepth 20000 in
theorem ggX11_token_X11_isToken : GoodIn wsX11_token wsX11_isToken := goodIn_r _ [10, 11, 12, 13, 9, 14, 15, 16, 17, 18, 19, 20, 21, 22, 23, 24, 25, 26, 27, 28, 29, 30, 31, 32, 33, 34, 35, 36, 37, 38, 39, 40, 41, 42, 43, 44, 45, 46, 47, 48, 49, 50, 51] (by decide +kernel) (by decide +kernel)
set_option maxRecDepth 20000 in
theorem gX11_token_X11_isToken : GoodIn wsX11_token (wsV RX11 173 RX11 yX11_isToken wsX11_isToken) := goodIn_app (goodIn_of _ (by decide +kernel)) ggX11_token_X11_isToken
set_option maxRecDepth 20000 in
theorem ggX11_token_X11_in : GoodIn wsX11_token wsX11_in := goodIn_r _ [14] (by decide +kernel) (by decide +kernel)
set_option maxRecDepth 20000 in
theorem gX11_token_X11_in : GoodIn wsX11_token (va_wsS RX11 86 yX11_in wsX11_in) := goodIn_app (goodIn_of _ (by decide +kernel)) ggX11_token_X11_in
theorem dX11_token_0 : decode cX11_token 0 = .ok (.aload_n 0, 1) := by decide +kernel
theorem dX11_token_1 : decode cX11_token 1 = .ok (.iload_n 1, 1) := by decide +kernel
theorem dX11_token_2 : decode cX11_token 2 = .ok (.invokevirtual 173, 3) := by decide +kernel
theorem dX11_token_5 : decode cX11_token 5 = .ok (.ifCond .eq 12, 3) := by decide +kernel
theorem dX11_token_8 : decode cX11_token 8 = .ok (.iload_n 2, 1) := by decide +kernel
theorem dX11_token_9 : decode cX11_token 9 = .ok (.iconst 0, 1) := by decide +kernel
theorem dX11_token_10 : decode cX11_token 10 = .ok (.iconst 4, 1) := by decide +kernel
theorem dX11_token_11 : decode cX11_token 11 = .ok (.invokestatic 86, 3) := by decide +kernel
theorem dX11_token_14 : decode cX11_token 14 = .ok (.ifCond .ne 6, 3) := by decide +kernel
theorem dX11_token_17 : decode cX11_token 17 = .ok (.bipush (-2), 2) := by decide +kernel
theorem dX11_token_19 : decode cX11_token 19 = .ok (.ireturn, 1) := by decide +kernel
theorem dX11_token_20 : decode cX11_token 20 = .ok (.iload_n 2, 1) := by decide +kernel
theorem dX11_token_21 : decode cX11_token 21 = .ok (.ifCond .ne 12, 3) := by decide +kernel
theorem dX11_token_24 : decode cX11_token 24 = .ok (.aload_n 0, 1) := by decide +kernel
theorem dX11_token_25 : decode cX11_token 25 = .ok (.getfield 46, 3) := by decide +kernel
theorem dX11_token_28 : decode cX11_token 28 = .ok (.iload_n 1, 1) := by decide +kernel
theorem dX11_token_29 : decode cX11_token 29 = .ok (.iaload, 1) := by decide +kernel
theorem dX11_token_30 : decode cX11_token 30 = .ok (.goto 69, 3) := by decide +kernel
theorem dX11_token_33 : decode cX11_token 33 = .ok (.iload_n 2, 1) := by decide +kernel
theorem dX11_token_34 : decode cX11_token 34 = .ok (.iconst 1, 1) := by decide +kernel
theorem dX11_token_35 : decode cX11_token 35 = .ok (.if_icmp .ne 12, 3) := by decide +kernel
theorem dX11_token_38 : decode cX11_token 38 = .ok (.aload_n 0, 1) := by decide +kernel
theorem dX11_token_39 : decode cX11_token 39 = .ok (.getfield 49, 3) := by decide +kernel
theorem dX11_token_42 : decode cX11_token 42 = .ok (.iload_n 1, 1) := by decide +kernel
theorem dX11_token_43 : decode cX11_token 43 = .ok (.iaload, 1) := by decide +kernel
theorem dX11_token_44 : decode cX11_token 44 = .ok (.goto 55, 3) := by decide +kernel
theorem dX11_token_47 : decode cX11_token 47 = .ok (.iload_n 2, 1) := by decide +kernel
theorem dX11_token_48 : decode cX11_token 48 = .ok (.iconst 2, 1) := by decide +kernel
theorem dX11_token_49 : decode cX11_token 49 = .ok (.if_icmp .ne 12, 3) := by decide +kernel
theorem dX11_token_52 : decode cX11_token 52 = .ok (.aload_n 0, 1) := by decide +kernel
theorem dX11_token_53 : decode cX11_token 53 = .ok (.getfield 52, 3) := by decide +kernel
theorem dX11_token_56 : decode cX11_token 56 = .ok (.iload_n 1, 1) := by decide +kernel
theorem dX11_token_57 : decode cX11_token 57 = .ok (.iaload, 1) := by decide +kernel
theorem dX11_token_58 : decode cX11_token 58 = .ok (.goto 41, 3) := by decide +kernel
theorem dX11_token_61 : decode cX11_token 61 = .ok (.iload_n 2, 1) := by decide +kernel
theorem dX11_token_62 : decode cX11_token 62 = .ok (.iconst 3, 1) := by decide +kernel
theorem dX11_token_63 : decode cX11_token 63 = .ok (.if_icmp .ne 12, 3) := by decide +kernel
theorem dX11_token_66 : decode cX11_token 66 = .ok (.aload_n 0, 1) := by decide +kernel
theorem dX11_token_67 : decode cX11_token 67 = .ok (.getfield 55, 3) := by decide +kernel
theorem dX11_token_70 : decode cX11_token 70 = .ok (.iload_n 1, 1) := by decide +kernel
theorem dX11_token_71 : decode cX11_token 71 = .ok (.iaload, 1) := by decide +kernel
theorem dX11_token_72 : decode cX11_token 72 = .ok (.goto 27, 3) := by decide +kernel
theorem dX11_token_75 : decode cX11_token 75 = .ok (.aload_n 0, 1) := by decide +kernel
theorem dX11_token_76 : decode cX11_token 76 = .ok (.getfield 46, 3) := by decide +kernel
theorem dX11_token_79 : decode cX11_token 79 = .ok (.iload_n 1, 1) := by decide +kernel
theorem dX11_token_80 : decode cX11_token 80 = .ok (.iaload, 1) := by decide +kernel
theorem dX11_token_81 : decode cX11_token 81 = .ok (.ifCond .ne 17, 3) := by decide +kernel
theorem dX11_token_84 : decode cX11_token 84 = .ok (.aload_n 0, 1) := by decide +kernel
theorem dX11_token_85 : decode cX11_token 85 = .ok (.getfield 25, 3) := by decide +kernel
theorem dX11_token_88 : decode cX11_token 88 = .ok (.aload_n 0, 1) := by decide +kernel
theorem dX11_token_89 : decode cX11_token 89 = .ok (.getfield 55, 3) := by decide +kernel
theorem dX11_token_92 : decode cX11_token 92 = .ok (.iload_n 1, 1) := by decide +kernel
theorem dX11_token_93 : decode cX11_token 93 = .ok (.iaload, 1) := by decide +kernel
theorem dX11_token_94 : decode cX11_token 94 = .ok (.iaload, 1) := by decide +kernel
theorem dX11_token_95 : decode cX11_token 95 = .ok (.goto 4, 3) := by decide +kernel
theorem dX11_token_98 : decode cX11_token 98 = .ok (.iconst 0, 1) := by decide +kernel
theorem dX11_token_99 : decode cX11_token 99 = .ok (.ireturn, 1) := by decide +kernel
set_option maxRecDepth 20000 in
theorem ggX11_at_X11_isToken : GoodIn wsX11_at wsX11_isToken := goodIn_r _ [8, 9, 10, 11, 7, 12, 13, 14, 15, 16, 17, 18, 19, 20, 21, 22, 23, 24, 25, 26, 27, 28, 29, 30, 31, 32, 33, 34, 35, 36, 37, 38, 39, 40, 41, 42, 43, 44, 45, 46, 47, 48, 49] (by decide +kernel) (by decide +kernel)
set_option maxRecDepth 20000 in
theorem gX11_at_X11_isToken : GoodIn wsX11_at (wsV RX11 173 RX11 yX11_isToken wsX11_isToken) := goodIn_app (goodIn_of _ (by decide +kernel)) ggX11_at_X11_isToken
set_option maxRecDepth 20000 in
theorem ggX11_at_X11_in : GoodIn wsX11_at wsX11_in := goodIn_r _ [12] (by decide +kernel) (by decide +kernel)
set_option maxRecDepth 20000 in
theorem gX11_at_X11_in : GoodIn wsX11_at (va_wsS RX11 86 yX11_in wsX11_in) := goodIn_app (goodIn_of _ (by decide +kernel)) ggX11_at_X11_in
theorem dX11_at_0 : decode cX11_at 0 = .ok (.aload_n 0, 1) := by decide +kernel
theorem dX11_at_1 : decode cX11_at 1 = .ok (.iload_n 1, 1) := by decide +kernel
theorem dX11_at_2 : decode cX11_at 2 = .ok (.invokevirtual 173, 3) := by decide +kernel
theorem dX11_at_5 : decode cX11_at 5 = .ok (.ifCond .eq 35, 3) := by decide +kernel
theorem dX11_at_8 : decode cX11_at 8 = .ok (.iload_n 2, 1) := by decide +kernel
theorem dX11_at_9 : decode cX11_at 9 = .ok (.iconst 0, 1) := by decide +kernel
theorem dX11_at_10 : decode cX11_at 10 = .ok (.aload_n 0, 1) := by decide +kernel
theorem dX11_at_11 : decode cX11_at 11 = .ok (.getfield 52, 3) := by decide +kernel
theorem dX11_at_14 : decode cX11_at 14 = .ok (.iload_n 1, 1) := by decide +kernel
theorem dX11_at_15 : decode cX11_at 15 = .ok (.iaload, 1) := by decide +kernel
theorem dX11_at_16 : decode cX11_at 16 = .ok (.iconst 1, 1) := by decide +kernel
theorem dX11_at_17 : decode cX11_at 17 = .ok (.isub, 1) := by decide +kernel
theorem dX11_at_18 : decode cX11_at 18 = .ok (.invokestatic 86, 3) := by decide +kernel
theorem dX11_at_21 : decode cX11_at 21 = .ok (.ifCond .eq 19, 3) := by decide +kernel
theorem dX11_at_24 : decode cX11_at 24 = .ok (.aload_n 0, 1) := by decide +kernel
theorem dX11_at_25 : decode cX11_at 25 = .ok (.getfield 70, 3) := by decide +kernel
theorem dX11_at_28 : decode cX11_at 28 = .ok (.aload_n 0, 1) := by decide +kernel
theorem dX11_at_29 : decode cX11_at 29 = .ok (.getfield 49, 3) := by decide +kernel
theorem dX11_at_32 : decode cX11_at 32 = .ok (.iload_n 1, 1) := by decide +kernel
theorem dX11_at_33 : decode cX11_at 33 = .ok (.iaload, 1) := by decide +kernel
theorem dX11_at_34 : decode cX11_at 34 = .ok (.iload_n 2, 1) := by decide +kernel
theorem dX11_at_35 : decode cX11_at 35 = .ok (.iadd, 1) := by decide +kernel
theorem dX11_at_36 : decode cX11_at 36 = .ok (.iaload, 1) := by decide +kernel
theorem dX11_at_37 : decode cX11_at 37 = .ok (.goto 5, 3) := by decide +kernel
theorem dX11_at_40 : decode cX11_at 40 = .ok (.bipush (-2), 2) := by decide +kernel
theorem dX11_at_42 : decode cX11_at 42 = .ok (.ireturn, 1) := by decide +kernel
set_option maxRecDepth 20000 in
theorem ggX11_isNumberWord_X11_isKind : GoodIn wsX11_isNumberWord wsX11_isKind := goodIn_r _ [7, 8, 9, 10, 11, 12, 13, 14, 15, 16, 17, 18, 19, 20, 21, 22, 23, 24, 25, 26, 27, 28, 29, 30, 31, 32, 33, 34, 35, 36, 37, 38, 39, 40, 41, 42, 43, 44, 45] (by decide +kernel) (by decide +kernel)
set_option maxRecDepth 20000 in
theorem gX11_isNumberWord_X11_isKind : GoodIn wsX11_isNumberWord (wsV RX11 122 RX11 yX11_isKind wsX11_isKind) := goodIn_app (goodIn_of _ (by decide +kernel)) ggX11_isNumberWord_X11_isKind
theorem dX11_isNumberWord_0 : decode cX11_isNumberWord 0 = .ok (.aload_n 0, 1) := by decide +kernel
theorem dX11_isNumberWord_1 : decode cX11_isNumberWord 1 = .ok (.getfield 46, 3) := by decide +kernel
theorem dX11_isNumberWord_4 : decode cX11_isNumberWord 4 = .ok (.iload_n 1, 1) := by decide +kernel
theorem dX11_isNumberWord_5 : decode cX11_isNumberWord 5 = .ok (.iaload, 1) := by decide +kernel
theorem dX11_isNumberWord_6 : decode cX11_isNumberWord 6 = .ok (.ifCond .ne 21, 3) := by decide +kernel
theorem dX11_isNumberWord_9 : decode cX11_isNumberWord 9 = .ok (.aload_n 0, 1) := by decide +kernel
theorem dX11_isNumberWord_10 : decode cX11_isNumberWord 10 = .ok (.aload_n 0, 1) := by decide +kernel
theorem dX11_isNumberWord_11 : decode cX11_isNumberWord 11 = .ok (.getfield 55, 3) := by decide +kernel
theorem dX11_isNumberWord_14 : decode cX11_isNumberWord 14 = .ok (.iload_n 1, 1) := by decide +kernel
theorem dX11_isNumberWord_15 : decode cX11_isNumberWord 15 = .ok (.iaload, 1) := by decide +kernel
theorem dX11_isNumberWord_16 : decode cX11_isNumberWord 16 = .ok (.iconst 5, 1) := by decide +kernel
theorem dX11_isNumberWord_17 : decode cX11_isNumberWord 17 = .ok (.invokevirtual 122, 3) := by decide +kernel
theorem dX11_isNumberWord_20 : decode cX11_isNumberWord 20 = .ok (.ifCond .eq 7, 3) := by decide +kernel
theorem dX11_isNumberWord_23 : decode cX11_isNumberWord 23 = .ok (.iconst 1, 1) := by decide +kernel
theorem dX11_isNumberWord_24 : decode cX11_isNumberWord 24 = .ok (.goto 4, 3) := by decide +kernel
theorem dX11_isNumberWord_27 : decode cX11_isNumberWord 27 = .ok (.iconst 0, 1) := by decide +kernel
theorem dX11_isNumberWord_28 : decode cX11_isNumberWord 28 = .ok (.ireturn, 1) := by decide +kernel
set_option maxRecDepth 20000 in
theorem ggX11_amountAt_X11_isNumberWord : GoodIn wsX11_amountAt wsX11_isNumberWord := goodIn_r _ [10, 2, 3, 11, 12, 13, 9, 14, 15, 19, 20, 21, 22, 23, 24, 25, 26, 27, 28, 29, 30, 31, 32, 33, 34, 35, 36, 37, 38, 39, 40, 41, 42, 43, 44, 45, 46, 47, 48, 49, 50, 51, 52, 53, 54, 55] (by decide +kernel) (by decide +kernel)
set_option maxRecDepth 20000 in
theorem gX11_amountAt_X11_isNumberWord : GoodIn wsX11_amountAt (wsV RX11 179 RX11 yX11_isNumberWord wsX11_isNumberWord) := goodIn_app (goodIn_of _ (by decide +kernel)) ggX11_amountAt_X11_isNumberWord
set_option maxRecDepth 20000 in
theorem ggX11_amountAt_X11_in : GoodIn wsX11_amountAt wsX11_in := goodIn_r _ [18] (by decide +kernel) (by decide +kernel)
set_option maxRecDepth 20000 in
theorem gX11_amountAt_X11_in : GoodIn wsX11_amountAt (va_wsS RX11 86 yX11_in wsX11_in) := goodIn_app (goodIn_of _ (by decide +kernel)) ggX11_amountAt_X11_in
theorem dX11_amountAt_0 : decode cX11_amountAt 0 = .ok (.aload_n 0, 1) := by decide +kernel
theorem dX11_amountAt_1 : decode cX11_amountAt 1 = .ok (.iconst 0, 1) := by decide +kernel
theorem dX11_amountAt_2 : decode cX11_amountAt 2 = .ok (.putfield 176, 3) := by decide +kernel
theorem dX11_amountAt_5 : decode cX11_amountAt 5 = .ok (.aload_n 0, 1) := by decide +kernel
theorem dX11_amountAt_6 : decode cX11_amountAt 6 = .ok (.getfield 46, 3) := by decide +kernel
theorem dX11_amountAt_9 : decode cX11_amountAt 9 = .ok (.iload_n 1, 1) := by decide +kernel
theorem dX11_amountAt_10 : decode cX11_amountAt 10 = .ok (.iaload, 1) := by decide +kernel
theorem dX11_amountAt_11 : decode cX11_amountAt 11 = .ok (.iconst 2, 1) := by decide +kernel
theorem dX11_amountAt_12 : decode cX11_amountAt 12 = .ok (.if_icmp .ne 15, 3) := by decide +kernel
theorem dX11_amountAt_15 : decode cX11_amountAt 15 = .ok (.aload_n 0, 1) := by decide +kernel
theorem dX11_amountAt_16 : decode cX11_amountAt 16 = .ok (.aload_n 0, 1) := by decide +kernel
theorem dX11_amountAt_17 : decode cX11_amountAt 17 = .ok (.getfield 55, 3) := by decide +kernel
theorem dX11_amountAt_20 : decode cX11_amountAt 20 = .ok (.iload_n 1, 1) := by decide +kernel
theorem dX11_amountAt_21 : decode cX11_amountAt 21 = .ok (.iaload, 1) := by decide +kernel
theorem dX11_amountAt_22 : decode cX11_amountAt 22 = .ok (.putfield 176, 3) := by decide +kernel
theorem dX11_amountAt_25 : decode cX11_amountAt 25 = .ok (.iconst 1, 1) := by decide +kernel
theorem dX11_amountAt_26 : decode cX11_amountAt 26 = .ok (.ireturn, 1) := by decide +kernel
theorem dX11_amountAt_27 : decode cX11_amountAt 27 = .ok (.aload_n 0, 1) := by decide +kernel
theorem dX11_amountAt_28 : decode cX11_amountAt 28 = .ok (.iload_n 1, 1) := by decide +kernel
theorem dX11_amountAt_29 : decode cX11_amountAt 29 = .ok (.invokevirtual 179, 3) := by decide +kernel
theorem dX11_amountAt_32 : decode cX11_amountAt 32 = .ok (.ifCond .ne 5, 3) := by decide +kernel
theorem dX11_amountAt_35 : decode cX11_amountAt 35 = .ok (.iconst 0, 1) := by decide +kernel
theorem dX11_amountAt_36 : decode cX11_amountAt 36 = .ok (.ireturn, 1) := by decide +kernel
theorem dX11_amountAt_37 : decode cX11_amountAt 37 = .ok (.aload_n 0, 1) := by decide +kernel
theorem dX11_amountAt_38 : decode cX11_amountAt 38 = .ok (.getfield 28, 3) := by decide +kernel
theorem dX11_amountAt_41 : decode cX11_amountAt 41 = .ok (.aload_n 0, 1) := by decide +kernel
theorem dX11_amountAt_42 : decode cX11_amountAt 42 = .ok (.getfield 55, 3) := by decide +kernel
theorem dX11_amountAt_45 : decode cX11_amountAt 45 = .ok (.iload_n 1, 1) := by decide +kernel
theorem dX11_amountAt_46 : decode cX11_amountAt 46 = .ok (.iaload, 1) := by decide +kernel
theorem dX11_amountAt_47 : decode cX11_amountAt 47 = .ok (.iaload, 1) := by decide +kernel
theorem dX11_amountAt_48 : decode cX11_amountAt 48 = .ok (.istore_n 2, 1) := by decide +kernel
theorem dX11_amountAt_49 : decode cX11_amountAt 49 = .ok (.iconst 0, 1) := by decide +kernel
theorem dX11_amountAt_50 : decode cX11_amountAt 50 = .ok (.istore_n 3, 1) := by decide +kernel
theorem dX11_amountAt_51 : decode cX11_amountAt 51 = .ok (.iload_n 1, 1) := by decide +kernel
theorem dX11_amountAt_52 : decode cX11_amountAt 52 = .ok (.iconst 1, 1) := by decide +kernel
theorem dX11_amountAt_53 : decode cX11_amountAt 53 = .ok (.iadd, 1) := by decide +kernel
theorem dX11_amountAt_54 : decode cX11_amountAt 54 = .ok (.istore 4, 2) := by decide +kernel
theorem dX11_amountAt_56 : decode cX11_amountAt 56 = .ok (.iconst 1, 1) := by decide +kernel
theorem dX11_amountAt_57 : decode cX11_amountAt 57 = .ok (.istore 5, 2) := by decide +kernel
theorem dX11_amountAt_59 : decode cX11_amountAt 59 = .ok (.iload 5, 2) := by decide +kernel
theorem dX11_amountAt_61 : decode cX11_amountAt 61 = .ok (.ifCond .eq 183, 3) := by decide +kernel
theorem dX11_amountAt_64 : decode cX11_amountAt 64 = .ok (.iload 4, 2) := by decide +kernel
theorem dX11_amountAt_66 : decode cX11_amountAt 66 = .ok (.aload_n 0, 1) := by decide +kernel
theorem dX11_amountAt_67 : decode cX11_amountAt 67 = .ok (.getfield 170, 3) := by decide +kernel
theorem dX11_amountAt_70 : decode cX11_amountAt 70 = .ok (.if_icmp .ge 174, 3) := by decide +kernel
theorem dX11_amountAt_73 : decode cX11_amountAt 73 = .ok (.aload_n 0, 1) := by decide +kernel
theorem dX11_amountAt_74 : decode cX11_amountAt 74 = .ok (.iload 4, 2) := by decide +kernel
theorem dX11_amountAt_76 : decode cX11_amountAt 76 = .ok (.invokevirtual 179, 3) := by decide +kernel
theorem dX11_amountAt_79 : decode cX11_amountAt 79 = .ok (.ifCond .eq 165, 3) := by decide +kernel
theorem dX11_amountAt_82 : decode cX11_amountAt 82 = .ok (.aload_n 0, 1) := by decide +kernel
theorem dX11_amountAt_83 : decode cX11_amountAt 83 = .ok (.getfield 28, 3) := by decide +kernel
theorem dX11_amountAt_86 : decode cX11_amountAt 86 = .ok (.aload_n 0, 1) := by decide +kernel
theorem dX11_amountAt_87 : decode cX11_amountAt 87 = .ok (.getfield 55, 3) := by decide +kernel
theorem dX11_amountAt_90 : decode cX11_amountAt 90 = .ok (.iload 4, 2) := by decide +kernel
theorem dX11_amountAt_92 : decode cX11_amountAt 92 = .ok (.iaload, 1) := by decide +kernel
theorem dX11_amountAt_93 : decode cX11_amountAt 93 = .ok (.iaload, 1) := by decide +kernel
theorem dX11_amountAt_94 : decode cX11_amountAt 94 = .ok (.istore 6, 2) := by decide +kernel
theorem dX11_amountAt_96 : decode cX11_amountAt 96 = .ok (.iload_n 2, 1) := by decide +kernel
theorem dX11_amountAt_97 : decode cX11_amountAt 97 = .ok (.bipush 100, 2) := by decide +kernel
theorem dX11_amountAt_99 : decode cX11_amountAt 99 = .ok (.irem, 1) := by decide +kernel
theorem dX11_amountAt_100 : decode cX11_amountAt 100 = .ok (.istore 7, 2) := by decide +kernel
theorem dX11_amountAt_102 : decode cX11_amountAt 102 = .ok (.iload 6, 2) := by decide +kernel
theorem dX11_amountAt_104 : decode cX11_amountAt 104 = .ok (.bipush 100, 2) := by decide +kernel
theorem dX11_amountAt_106 : decode cX11_amountAt 106 = .ok (.if_icmp .ne 21, 3) := by decide +kernel
theorem dX11_amountAt_109 : decode cX11_amountAt 109 = .ok (.iload_n 2, 1) := by decide +kernel
theorem dX11_amountAt_110 : decode cX11_amountAt 110 = .ok (.iconst 1, 1) := by decide +kernel
theorem dX11_amountAt_111 : decode cX11_amountAt 111 = .ok (.bipush 9, 2) := by decide +kernel
theorem dX11_amountAt_113 : decode cX11_amountAt 113 = .ok (.invokestatic 86, 3) := by decide +kernel
theorem dX11_amountAt_116 : decode cX11_amountAt 116 = .ok (.ifCond .eq 11, 3) := by decide +kernel
theorem dX11_amountAt_119 : decode cX11_amountAt 119 = .ok (.bipush 100, 2) := by decide +kernel
theorem dX11_amountAt_121 : decode cX11_amountAt 121 = .ok (.iload_n 2, 1) := by decide +kernel
theorem dX11_amountAt_122 : decode cX11_amountAt 122 = .ok (.imul, 1) := by decide +kernel
theorem dX11_amountAt_123 : decode cX11_amountAt 123 = .ok (.istore_n 2, 1) := by decide +kernel
theorem dX11_amountAt_124 : decode cX11_amountAt 124 = .ok (.goto 102, 3) := by decide +kernel
theorem dX11_amountAt_127 : decode cX11_amountAt 127 = .ok (.iload 6, 2) := by decide +kernel
theorem dX11_amountAt_129 : decode cX11_amountAt 129 = .ok (.sipush 1000, 3) := by decide +kernel
theorem dX11_amountAt_132 : decode cX11_amountAt 132 = .ok (.if_icmp .ne 29, 3) := by decide +kernel
theorem dX11_amountAt_135 : decode cX11_amountAt 135 = .ok (.iload_n 2, 1) := by decide +kernel
theorem dX11_amountAt_136 : decode cX11_amountAt 136 = .ok (.iconst 1, 1) := by decide +kernel
theorem dX11_amountAt_137 : decode cX11_amountAt 137 = .ok (.sipush 999, 3) := by decide +kernel
theorem dX11_amountAt_140 : decode cX11_amountAt 140 = .ok (.invokestatic 86, 3) := by decide +kernel
theorem dX11_amountAt_143 : decode cX11_amountAt 143 = .ok (.ifCond .eq 18, 3) := by decide +kernel
theorem dX11_amountAt_146 : decode cX11_amountAt 146 = .ok (.iload_n 3, 1) := by decide +kernel
theorem dX11_amountAt_147 : decode cX11_amountAt 147 = .ok (.ifCond .ne 14, 3) := by decide +kernel
theorem dX11_amountAt_150 : decode cX11_amountAt 150 = .ok (.sipush 1000, 3) := by decide +kernel
theorem dX11_amountAt_153 : decode cX11_amountAt 153 = .ok (.iload_n 2, 1) := by decide +kernel
theorem dX11_amountAt_154 : decode cX11_amountAt 154 = .ok (.imul, 1) := by decide +kernel
theorem dX11_amountAt_155 : decode cX11_amountAt 155 = .ok (.istore_n 3, 1) := by decide +kernel
theorem dX11_amountAt_156 : decode cX11_amountAt 156 = .ok (.iconst 0, 1) := by decide +kernel
theorem dX11_amountAt_157 : decode cX11_amountAt 157 = .ok (.istore_n 2, 1) := by decide +kernel
theorem dX11_amountAt_158 : decode cX11_amountAt 158 = .ok (.goto 68, 3) := by decide +kernel
theorem dX11_amountAt_161 : decode cX11_amountAt 161 = .ok (.iload 6, 2) := by decide +kernel
theorem dX11_amountAt_163 : decode cX11_amountAt 163 = .ok (.iconst 1, 1) := by decide +kernel
theorem dX11_amountAt_164 : decode cX11_amountAt 164 = .ok (.bipush 99, 2) := by decide +kernel
theorem dX11_amountAt_166 : decode cX11_amountAt 166 = .ok (.invokestatic 86, 3) := by decide +kernel
theorem dX11_amountAt_169 : decode cX11_amountAt 169 = .ok (.ifCond .eq 20, 3) := by decide +kernel
theorem dX11_amountAt_172 : decode cX11_amountAt 172 = .ok (.iload_n 2, 1) := by decide +kernel
theorem dX11_amountAt_173 : decode cX11_amountAt 173 = .ok (.ifCond .le 8, 3) := by decide +kernel
theorem dX11_amountAt_176 : decode cX11_amountAt 176 = .ok (.iload 7, 2) := by decide +kernel
theorem dX11_amountAt_178 : decode cX11_amountAt 178 = .ok (.ifCond .eq 37, 3) := by decide +kernel
theorem dX11_amountAt_181 : decode cX11_amountAt 181 = .ok (.iload_n 2, 1) := by decide +kernel
theorem dX11_amountAt_182 : decode cX11_amountAt 182 = .ok (.ifCond .ne 7, 3) := by decide +kernel
theorem dX11_amountAt_185 : decode cX11_amountAt 185 = .ok (.iload_n 3, 1) := by decide +kernel
theorem dX11_amountAt_186 : decode cX11_amountAt 186 = .ok (.ifCond .gt 29, 3) := by decide +kernel
theorem dX11_amountAt_189 : decode cX11_amountAt 189 = .ok (.iload 6, 2) := by decide +kernel
theorem dX11_amountAt_191 : decode cX11_amountAt 191 = .ok (.iconst 1, 1) := by decide +kernel
theorem dX11_amountAt_192 : decode cX11_amountAt 192 = .ok (.bipush 9, 2) := by decide +kernel
theorem dX11_amountAt_194 : decode cX11_amountAt 194 = .ok (.invokestatic 86, 3) := by decide +kernel
theorem dX11_amountAt_197 : decode cX11_amountAt 197 = .ok (.ifCond .eq 26, 3) := by decide +kernel
theorem dX11_amountAt_200 : decode cX11_amountAt 200 = .ok (.iload 7, 2) := by decide +kernel
theorem dX11_amountAt_202 : decode cX11_amountAt 202 = .ok (.bipush 20, 2) := by decide +kernel
theorem dX11_amountAt_204 : decode cX11_amountAt 204 = .ok (.if_icmp .lt 19, 3) := by decide +kernel
theorem dX11_amountAt_207 : decode cX11_amountAt 207 = .ok (.iload 7, 2) := by decide +kernel
theorem dX11_amountAt_209 : decode cX11_amountAt 209 = .ok (.bipush 10, 2) := by decide +kernel
theorem dX11_amountAt_211 : decode cX11_amountAt 211 = .ok (.irem, 1) := by decide +kernel
theorem dX11_amountAt_212 : decode cX11_amountAt 212 = .ok (.ifCond .ne 11, 3) := by decide +kernel
theorem dX11_amountAt_215 : decode cX11_amountAt 215 = .ok (.iload_n 2, 1) := by decide +kernel
theorem dX11_amountAt_216 : decode cX11_amountAt 216 = .ok (.iload 6, 2) := by decide +kernel
theorem dX11_amountAt_218 : decode cX11_amountAt 218 = .ok (.iadd, 1) := by decide +kernel
theorem dX11_amountAt_219 : decode cX11_amountAt 219 = .ok (.istore_n 2, 1) := by decide +kernel
theorem dX11_amountAt_220 : decode cX11_amountAt 220 = .ok (.goto 6, 3) := by decide +kernel
theorem dX11_amountAt_223 : decode cX11_amountAt 223 = .ok (.iconst 0, 1) := by decide +kernel
theorem dX11_amountAt_224 : decode cX11_amountAt 224 = .ok (.istore 5, 2) := by decide +kernel
theorem dX11_amountAt_226 : decode cX11_amountAt 226 = .ok (.iload 4, 2) := by decide +kernel
theorem dX11_amountAt_228 : decode cX11_amountAt 228 = .ok (.iload 5, 2) := by decide +kernel
theorem dX11_amountAt_230 : decode cX11_amountAt 230 = .ok (.ifCond .eq 7, 3) := by decide +kernel
theorem dX11_amountAt_233 : decode cX11_amountAt 233 = .ok (.iconst 1, 1) := by decide +kernel
theorem dX11_amountAt_234 : decode cX11_amountAt 234 = .ok (.goto 4, 3) := by decide +kernel
theorem dX11_amountAt_237 : decode cX11_amountAt 237 = .ok (.iconst 0, 1) := by decide +kernel
theorem dX11_amountAt_238 : decode cX11_amountAt 238 = .ok (.iadd, 1) := by decide +kernel
theorem dX11_amountAt_239 : decode cX11_amountAt 239 = .ok (.istore 4, 2) := by decide +kernel
theorem dX11_amountAt_241 : decode cX11_amountAt 241 = .ok (.goto (-182), 3) := by decide +kernel
theorem dX11_amountAt_244 : decode cX11_amountAt 244 = .ok (.aload_n 0, 1) := by decide +kernel
theorem dX11_amountAt_245 : decode cX11_amountAt 245 = .ok (.iload_n 3, 1) := by decide +kernel
theorem dX11_amountAt_246 : decode cX11_amountAt 246 = .ok (.iload_n 2, 1) := by decide +kernel
theorem dX11_amountAt_247 : decode cX11_amountAt 247 = .ok (.iadd, 1) := by decide +kernel
theorem dX11_amountAt_248 : decode cX11_amountAt 248 = .ok (.putfield 176, 3) := by decide +kernel
theorem dX11_amountAt_251 : decode cX11_amountAt 251 = .ok (.iload 4, 2) := by decide +kernel
theorem dX11_amountAt_253 : decode cX11_amountAt 253 = .ok (.iload_n 1, 1) := by decide +kernel
theorem dX11_amountAt_254 : decode cX11_amountAt 254 = .ok (.isub, 1) := by decide +kernel
theorem dX11_amountAt_255 : decode cX11_amountAt 255 = .ok (.ireturn, 1) := by decide +kernel
set_option maxRecDepth 20000 in
theorem ggX11_amount_X11_isToken : GoodIn wsX11_amount wsX11_isToken := goodIn_r _ [6, 7, 8, 9, 5, 10, 27, 28, 29, 30, 31, 32, 33, 34, 35, 36, 37, 38, 39, 40, 41, 42, 43, 44, 45, 46, 47, 48, 49, 50, 51, 52, 53, 54, 55, 56, 57, 58, 59, 60, 61, 62, 63] (by decide +kernel) (by decide +kernel)
set_option maxRecDepth 20000 in
theorem gX11_amount_X11_isToken : GoodIn wsX11_amount (wsV RX11 173 RX11 yX11_isToken wsX11_isToken) := goodIn_app (goodIn_of _ (by decide +kernel)) ggX11_amount_X11_isToken
set_option maxRecDepth 20000 in
theorem ggX11_amount_X11_amountAt : GoodIn wsX11_amount wsX11_amountAt := goodIn_r _ [14, 1, 15, 16, 17, 7, 18, 19, 20, 5, 21, 22, 23, 24, 25, 26, 8, 9, 10, 27, 28, 29, 30, 31, 32, 33, 34, 35, 36, 37, 38, 39, 40, 41, 42, 43, 44, 45, 46, 47, 48, 49, 50, 51, 52, 53, 54, 55, 56, 57, 58, 59, 60, 61, 62, 63] (by decide +kernel) (by decide +kernel)
set_option maxRecDepth 20000 in
theorem gX11_amount_X11_amountAt : GoodIn wsX11_amount (wsV RX11 182 RX11 yX11_amountAt wsX11_amountAt) := goodIn_app (goodIn_of _ (by decide +kernel)) ggX11_amount_X11_amountAt
theorem dX11_amount_0 : decode cX11_amount 0 = .ok (.aload_n 0, 1) := by decide +kernel
theorem dX11_amount_1 : decode cX11_amount 1 = .ok (.iload_n 1, 1) := by decide +kernel
theorem dX11_amount_2 : decode cX11_amount 2 = .ok (.invokevirtual 173, 3) := by decide +kernel
theorem dX11_amount_5 : decode cX11_amount 5 = .ok (.ifCond .ne 6, 3) := by decide +kernel
theorem dX11_amount_8 : decode cX11_amount 8 = .ok (.bipush (-2), 2) := by decide +kernel
theorem dX11_amount_10 : decode cX11_amount 10 = .ok (.ireturn, 1) := by decide +kernel
theorem dX11_amount_11 : decode cX11_amount 11 = .ok (.aload_n 0, 1) := by decide +kernel
theorem dX11_amount_12 : decode cX11_amount 12 = .ok (.iload_n 1, 1) := by decide +kernel
theorem dX11_amount_13 : decode cX11_amount 13 = .ok (.invokevirtual 182, 3) := by decide +kernel
theorem dX11_amount_16 : decode cX11_amount 16 = .ok (.ifCond .ne 8, 3) := by decide +kernel
theorem dX11_amount_19 : decode cX11_amount 19 = .ok (.bipush (-4), 2) := by decide +kernel
theorem dX11_amount_21 : decode cX11_amount 21 = .ok (.goto 7, 3) := by decide +kernel
theorem dX11_amount_24 : decode cX11_amount 24 = .ok (.aload_n 0, 1) := by decide +kernel
theorem dX11_amount_25 : decode cX11_amount 25 = .ok (.getfield 176, 3) := by decide +kernel
theorem dX11_amount_28 : decode cX11_amount 28 = .ok (.ireturn, 1) := by decide +kernel
set_option maxRecDepth 20000 in
theorem ggX11_amountLength_X11_isToken : GoodIn wsX11_amountLength wsX11_isToken := goodIn_r _ [5, 6, 7, 8, 4, 9, 27, 28, 29, 30, 31, 32, 33, 34, 35, 36, 37, 38, 39, 40, 41, 42, 43, 44, 45, 46, 47, 48, 49, 50, 51, 52, 53, 54, 55, 56, 57, 58, 59, 60, 61, 62, 63] (by decide +kernel) (by decide +kernel)
set_option maxRecDepth 20000 in
theorem gX11_amountLength_X11_isToken : GoodIn wsX11_amountLength (wsV RX11 173 RX11 yX11_isToken wsX11_isToken) := goodIn_app (goodIn_of _ (by decide +kernel)) ggX11_amountLength_X11_isToken
set_option maxRecDepth 20000 in
theorem ggX11_amountLength_X11_amountAt : GoodIn wsX11_amountLength wsX11_amountAt := goodIn_r _ [13, 14, 15, 16, 17, 6, 18, 19, 20, 4, 21, 22, 23, 24, 25, 26, 7, 8, 9, 27, 28, 29, 30, 31, 32, 33, 34, 35, 36, 37, 38, 39, 40, 41, 42, 43, 44, 45, 46, 47, 48, 49, 50, 51, 52, 53, 54, 55, 56, 57, 58, 59, 60, 61, 62, 63] (by decide +kernel) (by decide +kernel)
set_option maxRecDepth 20000 in
theorem gX11_amountLength_X11_amountAt : GoodIn wsX11_amountLength (wsV RX11 182 RX11 yX11_amountAt wsX11_amountAt) := goodIn_app (goodIn_of _ (by decide +kernel)) ggX11_amountLength_X11_amountAt
theorem dX11_amountLength_0 : decode cX11_amountLength 0 = .ok (.aload_n 0, 1) := by decide +kernel
theorem dX11_amountLength_1 : decode cX11_amountLength 1 = .ok (.iload_n 1, 1) := by decide +kernel
theorem dX11_amountLength_2 : decode cX11_amountLength 2 = .ok (.invokevirtual 173, 3) := by decide +kernel
theorem dX11_amountLength_5 : decode cX11_amountLength 5 = .ok (.ifCond .eq 11, 3) := by decide +kernel
theorem dX11_amountLength_8 : decode cX11_amountLength 8 = .ok (.aload_n 0, 1) := by decide +kernel
theorem dX11_amountLength_9 : decode cX11_amountLength 9 = .ok (.iload_n 1, 1) := by decide +kernel
theorem dX11_amountLength_10 : decode cX11_amountLength 10 = .ok (.invokevirtual 182, 3) := by decide +kernel
theorem dX11_amountLength_13 : decode cX11_amountLength 13 = .ok (.goto 5, 3) := by decide +kernel
theorem dX11_amountLength_16 : decode cX11_amountLength 16 = .ok (.bipush (-2), 2) := by decide +kernel
theorem dX11_amountLength_18 : decode cX11_amountLength 18 = .ok (.ireturn, 1) := by decide +kernel
theorem dX11_thing_0 : decode cX11_thing 0 = .ok (.aload_n 0, 1) := by decide +kernel
theorem dX11_thing_1 : decode cX11_thing 1 = .ok (.getfield 185, 3) := by decide +kernel
theorem dX11_thing_4 : decode cX11_thing 4 = .ok (.bipush 12, 2) := by decide +kernel
theorem dX11_thing_6 : decode cX11_thing 6 = .ok (.if_icmp .ne 6, 3) := by decide +kernel
theorem dX11_thing_9 : decode cX11_thing 9 = .ok (.bipush (-5), 2) := by decide +kernel
theorem dX11_thing_11 : decode cX11_thing 11 = .ok (.ireturn, 1) := by decide +kernel
theorem dX11_thing_12 : decode cX11_thing 12 = .ok (.aload_n 0, 1) := by decide +kernel
theorem dX11_thing_13 : decode cX11_thing 13 = .ok (.dup, 1) := by decide +kernel
theorem dX11_thing_14 : decode cX11_thing 14 = .ok (.getfield 185, 3) := by decide +kernel
theorem dX11_thing_17 : decode cX11_thing 17 = .ok (.iconst 1, 1) := by decide +kernel
theorem dX11_thing_18 : decode cX11_thing 18 = .ok (.iadd, 1) := by decide +kernel
theorem dX11_thing_19 : decode cX11_thing 19 = .ok (.putfield 185, 3) := by decide +kernel
theorem dX11_thing_22 : decode cX11_thing 22 = .ok (.aload_n 0, 1) := by decide +kernel
theorem dX11_thing_23 : decode cX11_thing 23 = .ok (.getfield 185, 3) := by decide +kernel
theorem dX11_thing_26 : decode cX11_thing 26 = .ok (.iconst 1, 1) := by decide +kernel
theorem dX11_thing_27 : decode cX11_thing 27 = .ok (.isub, 1) := by decide +kernel
theorem dX11_thing_28 : decode cX11_thing 28 = .ok (.ireturn, 1) := by decide +kernel
set_option maxRecDepth 20000 in
theorem ggX11_means_X11_in : GoodIn wsX11_means wsX11_in := goodIn_r _ [9] (by decide +kernel) (by decide +kernel)
set_option maxRecDepth 20000 in
theorem gX11_means_X11_in : GoodIn wsX11_means (va_wsS RX11 86 yX11_in wsX11_in) := goodIn_app (goodIn_of _ (by decide +kernel)) ggX11_means_X11_in
set_option maxRecDepth 20000 in
theorem ggX11_means_X11_isWord : GoodIn wsX11_means wsX11_isWord := goodIn_r _ [13, 14, 6, 7, 8, 9, 15, 16, 17, 18, 19, 20, 21, 22, 23, 24, 25, 26, 27, 28, 29, 30, 31, 32, 33, 34, 35, 36, 37, 38, 39, 40, 41, 42, 43, 44, 45, 46, 47, 48, 49, 50, 51] (by decide +kernel) (by decide +kernel)
set_option maxRecDepth 20000 in
theorem gX11_means_X11_isWord : GoodIn wsX11_means (wsV RX11 119 RX11 yX11_isWord wsX11_isWord) := goodIn_app (goodIn_of _ (by decide +kernel)) ggX11_means_X11_isWord
theorem dX11_means_0 : decode cX11_means 0 = .ok (.iload_n 1, 1) := by decide +kernel
theorem dX11_means_1 : decode cX11_means 1 = .ok (.iconst 0, 1) := by decide +kernel
theorem dX11_means_2 : decode cX11_means 2 = .ok (.aload_n 0, 1) := by decide +kernel
theorem dX11_means_3 : decode cX11_means 3 = .ok (.getfield 185, 3) := by decide +kernel
theorem dX11_means_6 : decode cX11_means 6 = .ok (.iconst 1, 1) := by decide +kernel
theorem dX11_means_7 : decode cX11_means 7 = .ok (.isub, 1) := by decide +kernel
theorem dX11_means_8 : decode cX11_means 8 = .ok (.invokestatic 86, 3) := by decide +kernel
theorem dX11_means_11 : decode cX11_means 11 = .ok (.ifCond .eq 11, 3) := by decide +kernel
theorem dX11_means_14 : decode cX11_means 14 = .ok (.aload_n 0, 1) := by decide +kernel
theorem dX11_means_15 : decode cX11_means 15 = .ok (.iload_n 2, 1) := by decide +kernel
theorem dX11_means_16 : decode cX11_means 16 = .ok (.invokevirtual 119, 3) := by decide +kernel
theorem dX11_means_19 : decode cX11_means 19 = .ok (.ifCond .ne 6, 3) := by decide +kernel
theorem dX11_means_22 : decode cX11_means 22 = .ok (.bipush (-2), 2) := by decide +kernel
theorem dX11_means_24 : decode cX11_means 24 = .ok (.ireturn, 1) := by decide +kernel
theorem dX11_means_25 : decode cX11_means 25 = .ok (.iload_n 3, 1) := by decide +kernel
theorem dX11_means_26 : decode cX11_means 26 = .ok (.iconst (-1), 1) := by decide +kernel
theorem dX11_means_27 : decode cX11_means 27 = .ok (.bipush 7, 2) := by decide +kernel
theorem dX11_means_29 : decode cX11_means 29 = .ok (.invokestatic 86, 3) := by decide +kernel
theorem dX11_means_32 : decode cX11_means 32 = .ok (.ifCond .ne 6, 3) := by decide +kernel
theorem dX11_means_35 : decode cX11_means 35 = .ok (.bipush (-3), 2) := by decide +kernel
theorem dX11_means_37 : decode cX11_means 37 = .ok (.ireturn, 1) := by decide +kernel
theorem dX11_means_38 : decode cX11_means 38 = .ok (.aload_n 0, 1) := by decide +kernel
theorem dX11_means_39 : decode cX11_means 39 = .ok (.getfield 188, 3) := by decide +kernel
theorem dX11_means_42 : decode cX11_means 42 = .ok (.bipush 60, 2) := by decide +kernel
theorem dX11_means_44 : decode cX11_means 44 = .ok (.if_icmp .ne 6, 3) := by decide +kernel
theorem dX11_means_47 : decode cX11_means 47 = .ok (.bipush (-5), 2) := by decide +kernel
theorem dX11_means_49 : decode cX11_means 49 = .ok (.ireturn, 1) := by decide +kernel
theorem dX11_means_50 : decode cX11_means 50 = .ok (.aload_n 0, 1) := by decide +kernel
theorem dX11_means_51 : decode cX11_means 51 = .ok (.getfield 73, 3) := by decide +kernel
theorem dX11_means_54 : decode cX11_means 54 = .ok (.aload_n 0, 1) := by decide +kernel
theorem dX11_means_55 : decode cX11_means 55 = .ok (.getfield 188, 3) := by decide +kernel
theorem dX11_means_58 : decode cX11_means 58 = .ok (.iload_n 1, 1) := by decide +kernel
theorem dX11_means_59 : decode cX11_means 59 = .ok (.iastore, 1) := by decide +kernel
theorem dX11_means_60 : decode cX11_means 60 = .ok (.aload_n 0, 1) := by decide +kernel
theorem dX11_means_61 : decode cX11_means 61 = .ok (.getfield 76, 3) := by decide +kernel
theorem dX11_means_64 : decode cX11_means 64 = .ok (.aload_n 0, 1) := by decide +kernel
theorem dX11_means_65 : decode cX11_means 65 = .ok (.getfield 188, 3) := by decide +kernel
theorem dX11_means_68 : decode cX11_means 68 = .ok (.iload_n 2, 1) := by decide +kernel
theorem dX11_means_69 : decode cX11_means 69 = .ok (.iastore, 1) := by decide +kernel
theorem dX11_means_70 : decode cX11_means 70 = .ok (.aload_n 0, 1) := by decide +kernel
theorem dX11_means_71 : decode cX11_means 71 = .ok (.getfield 79, 3) := by decide +kernel
theorem dX11_means_74 : decode cX11_means 74 = .ok (.aload_n 0, 1) := by decide +kernel
theorem dX11_means_75 : decode cX11_means 75 = .ok (.getfield 188, 3) := by decide +kernel
theorem dX11_means_78 : decode cX11_means 78 = .ok (.iload_n 3, 1) := by decide +kernel
theorem dX11_means_79 : decode cX11_means 79 = .ok (.iastore, 1) := by decide +kernel
theorem dX11_means_80 : decode cX11_means 80 = .ok (.aload_n 0, 1) := by decide +kernel
theorem dX11_means_81 : decode cX11_means 81 = .ok (.dup, 1) := by decide +kernel
theorem dX11_means_82 : decode cX11_means 82 = .ok (.getfield 188, 3) := by decide +kernel
theorem dX11_means_85 : decode cX11_means 85 = .ok (.iconst 1, 1) := by decide +kernel
theorem dX11_means_86 : decode cX11_means 86 = .ok (.iadd, 1) := by decide +kernel
theorem dX11_means_87 : decode cX11_means 87 = .ok (.putfield 188, 3) := by decide +kernel
theorem dX11_means_90 : decode cX11_means 90 = .ok (.aload_n 0, 1) := by decide +kernel
theorem dX11_means_91 : decode cX11_means 91 = .ok (.getfield 188, 3) := by decide +kernel
theorem dX11_means_94 : decode cX11_means 94 = .ok (.ireturn, 1) := by decide +kernel
set_option maxRecDepth 20000 in
theorem ggX11_flag_X11_in : GoodIn wsX11_flag wsX11_in := goodIn_r _ [5] (by decide +kernel) (by decide +kernel)
set_option maxRecDepth 20000 in
theorem gX11_flag_X11_in : GoodIn wsX11_flag (va_wsS RX11 86 yX11_in wsX11_in) := goodIn_app (goodIn_of _ (by decide +kernel)) ggX11_flag_X11_in
theorem dX11_flag_0 : decode cX11_flag 0 = .ok (.iload_n 1, 1) := by decide +kernel
theorem dX11_flag_1 : decode cX11_flag 1 = .ok (.iconst 0, 1) := by decide +kernel
theorem dX11_flag_2 : decode cX11_flag 2 = .ok (.bipush 7, 2) := by decide +kernel
theorem dX11_flag_4 : decode cX11_flag 4 = .ok (.invokestatic 86, 3) := by decide +kernel
theorem dX11_flag_7 : decode cX11_flag 7 = .ok (.ifCond .ne 6, 3) := by decide +kernel
theorem dX11_flag_10 : decode cX11_flag 10 = .ok (.bipush (-3), 2) := by decide +kernel
theorem dX11_flag_12 : decode cX11_flag 12 = .ok (.ireturn, 1) := by decide +kernel
theorem dX11_flag_13 : decode cX11_flag 13 = .ok (.aload_n 0, 1) := by decide +kernel
theorem dX11_flag_14 : decode cX11_flag 14 = .ok (.getfield 191, 3) := by decide +kernel
theorem dX11_flag_17 : decode cX11_flag 17 = .ok (.iload_n 1, 1) := by decide +kernel
theorem dX11_flag_18 : decode cX11_flag 18 = .ok (.ishr, 1) := by decide +kernel
theorem dX11_flag_19 : decode cX11_flag 19 = .ok (.iconst 1, 1) := by decide +kernel
theorem dX11_flag_20 : decode cX11_flag 20 = .ok (.iand, 1) := by decide +kernel
theorem dX11_flag_21 : decode cX11_flag 21 = .ok (.istore_n 3, 1) := by decide +kernel
theorem dX11_flag_22 : decode cX11_flag 22 = .ok (.aload_n 0, 1) := by decide +kernel
theorem dX11_flag_23 : decode cX11_flag 23 = .ok (.aload_n 0, 1) := by decide +kernel
theorem dX11_flag_24 : decode cX11_flag 24 = .ok (.getfield 191, 3) := by decide +kernel
theorem dX11_flag_27 : decode cX11_flag 27 = .ok (.iconst 1, 1) := by decide +kernel
theorem dX11_flag_28 : decode cX11_flag 28 = .ok (.iload_n 1, 1) := by decide +kernel
theorem dX11_flag_29 : decode cX11_flag 29 = .ok (.ishl, 1) := by decide +kernel
theorem dX11_flag_30 : decode cX11_flag 30 = .ok (.iconst (-1), 1) := by decide +kernel
theorem dX11_flag_31 : decode cX11_flag 31 = .ok (.ixor, 1) := by decide +kernel
theorem dX11_flag_32 : decode cX11_flag 32 = .ok (.iand, 1) := by decide +kernel
theorem dX11_flag_33 : decode cX11_flag 33 = .ok (.iload_n 2, 1) := by decide +kernel
theorem dX11_flag_34 : decode cX11_flag 34 = .ok (.ifCond .eq 9, 3) := by decide +kernel
theorem dX11_flag_37 : decode cX11_flag 37 = .ok (.iconst 1, 1) := by decide +kernel
theorem dX11_flag_38 : decode cX11_flag 38 = .ok (.iload_n 1, 1) := by decide +kernel
theorem dX11_flag_39 : decode cX11_flag 39 = .ok (.ishl, 1) := by decide +kernel
theorem dX11_flag_40 : decode cX11_flag 40 = .ok (.goto 4, 3) := by decide +kernel
theorem dX11_flag_43 : decode cX11_flag 43 = .ok (.iconst 0, 1) := by decide +kernel
theorem dX11_flag_44 : decode cX11_flag 44 = .ok (.ior, 1) := by decide +kernel
theorem dX11_flag_45 : decode cX11_flag 45 = .ok (.putfield 191, 3) := by decide +kernel
theorem dX11_flag_48 : decode cX11_flag 48 = .ok (.iload_n 3, 1) := by decide +kernel
theorem dX11_flag_49 : decode cX11_flag 49 = .ok (.ireturn, 1) := by decide +kernel
set_option maxRecDepth 20000 in
theorem ggX11_refer_X11_isWord : GoodIn wsX11_refer wsX11_isWord := goodIn_r _ [7, 8, 9, 10, 6, 11, 17, 18, 19, 20, 21, 22, 23, 24, 25, 26, 27, 28, 29, 30, 31, 32, 33, 34, 35, 36, 37, 38, 39, 40, 41, 42, 43, 44, 45, 46, 47, 48, 49, 50, 51, 52, 53] (by decide +kernel) (by decide +kernel)
set_option maxRecDepth 20000 in
theorem gX11_refer_X11_isWord : GoodIn wsX11_refer (wsV RX11 119 RX11 yX11_isWord wsX11_isWord) := goodIn_app (goodIn_of _ (by decide +kernel)) ggX11_refer_X11_isWord
set_option maxRecDepth 20000 in
theorem ggX11_refer_X11_isKind : GoodIn wsX11_refer wsX11_isKind := goodIn_r _ [15, 16, 17, 18, 19, 20, 21, 22, 23, 24, 25, 26, 27, 28, 29, 30, 31, 32, 33, 34, 35, 36, 37, 38, 39, 40, 41, 42, 43, 44, 45, 46, 47, 48, 49, 50, 51, 52, 53] (by decide +kernel) (by decide +kernel)
set_option maxRecDepth 20000 in
theorem gX11_refer_X11_isKind : GoodIn wsX11_refer (wsV RX11 122 RX11 yX11_isKind wsX11_isKind) := goodIn_app (goodIn_of _ (by decide +kernel)) ggX11_refer_X11_isKind
theorem dX11_refer_0 : decode cX11_refer 0 = .ok (.aload_n 0, 1) := by decide +kernel
theorem dX11_refer_1 : decode cX11_refer 1 = .ok (.iload_n 1, 1) := by decide +kernel
theorem dX11_refer_2 : decode cX11_refer 2 = .ok (.invokevirtual 119, 3) := by decide +kernel
theorem dX11_refer_5 : decode cX11_refer 5 = .ok (.ifCond .ne 6, 3) := by decide +kernel
theorem dX11_refer_8 : decode cX11_refer 8 = .ok (.bipush (-2), 2) := by decide +kernel
theorem dX11_refer_10 : decode cX11_refer 10 = .ok (.ireturn, 1) := by decide +kernel
theorem dX11_refer_11 : decode cX11_refer 11 = .ok (.iload_n 2, 1) := by decide +kernel
theorem dX11_refer_12 : decode cX11_refer 12 = .ok (.ifCond .lt 13, 3) := by decide +kernel
theorem dX11_refer_15 : decode cX11_refer 15 = .ok (.iload_n 2, 1) := by decide +kernel
theorem dX11_refer_16 : decode cX11_refer 16 = .ok (.iconst 1, 1) := by decide +kernel
theorem dX11_refer_17 : decode cX11_refer 17 = .ok (.aload_n 0, 1) := by decide +kernel
theorem dX11_refer_18 : decode cX11_refer 18 = .ok (.getfield 185, 3) := by decide +kernel
theorem dX11_refer_21 : decode cX11_refer 21 = .ok (.ishl, 1) := by decide +kernel
theorem dX11_refer_22 : decode cX11_refer 22 = .ok (.if_icmp .lt 6, 3) := by decide +kernel
theorem dX11_refer_25 : decode cX11_refer 25 = .ok (.bipush (-3), 2) := by decide +kernel
theorem dX11_refer_27 : decode cX11_refer 27 = .ok (.ireturn, 1) := by decide +kernel
theorem dX11_refer_28 : decode cX11_refer 28 = .ok (.aload_n 0, 1) := by decide +kernel
theorem dX11_refer_29 : decode cX11_refer 29 = .ok (.iload_n 1, 1) := by decide +kernel
theorem dX11_refer_30 : decode cX11_refer 30 = .ok (.iconst 4, 1) := by decide +kernel
theorem dX11_refer_31 : decode cX11_refer 31 = .ok (.invokevirtual 122, 3) := by decide +kernel
theorem dX11_refer_34 : decode cX11_refer 34 = .ok (.ifCond .ne 6, 3) := by decide +kernel
theorem dX11_refer_37 : decode cX11_refer 37 = .ok (.bipush (-4), 2) := by decide +kernel
theorem dX11_refer_39 : decode cX11_refer 39 = .ok (.ireturn, 1) := by decide +kernel
theorem dX11_refer_40 : decode cX11_refer 40 = .ok (.aload_n 0, 1) := by decide +kernel
theorem dX11_refer_41 : decode cX11_refer 41 = .ok (.getfield 34, 3) := by decide +kernel
theorem dX11_refer_44 : decode cX11_refer 44 = .ok (.iload_n 1, 1) := by decide +kernel
theorem dX11_refer_45 : decode cX11_refer 45 = .ok (.iaload, 1) := by decide +kernel
theorem dX11_refer_46 : decode cX11_refer 46 = .ok (.istore_n 3, 1) := by decide +kernel
theorem dX11_refer_47 : decode cX11_refer 47 = .ok (.aload_n 0, 1) := by decide +kernel
theorem dX11_refer_48 : decode cX11_refer 48 = .ok (.getfield 34, 3) := by decide +kernel
theorem dX11_refer_51 : decode cX11_refer 51 = .ok (.iload_n 1, 1) := by decide +kernel
theorem dX11_refer_52 : decode cX11_refer 52 = .ok (.iload_n 2, 1) := by decide +kernel
theorem dX11_refer_53 : decode cX11_refer 53 = .ok (.iastore, 1) := by decide +kernel
theorem dX11_refer_54 : decode cX11_refer 54 = .ok (.iload_n 3, 1) := by decide +kernel
theorem dX11_refer_55 : decode cX11_refer 55 = .ok (.ireturn, 1) := by decide +kernel
set_option maxRecDepth 20000 in
theorem ggX11_meantBy_X11_isKind : GoodIn wsX11_meantBy wsX11_isKind := goodIn_r _ [14, 15, 16, 17, 18, 19, 20, 21, 22, 23, 24, 25, 26, 27, 28, 29, 30, 31, 32, 33, 34, 35, 36, 37, 38, 39, 40, 41, 42, 43, 44, 45, 46, 47, 48, 49, 50, 51, 52] (by decide +kernel) (by decide +kernel)
set_option maxRecDepth 20000 in
theorem gX11_meantBy_X11_isKind : GoodIn wsX11_meantBy (wsV RX11 122 RX11 yX11_isKind wsX11_isKind) := goodIn_app (goodIn_of _ (by decide +kernel)) ggX11_meantBy_X11_isKind
theorem dX11_meantBy_0 : decode cX11_meantBy 0 = .ok (.aload_n 0, 1) := by decide +kernel
theorem dX11_meantBy_1 : decode cX11_meantBy 1 = .ok (.getfield 46, 3) := by decide +kernel
theorem dX11_meantBy_4 : decode cX11_meantBy 4 = .ok (.iload_n 1, 1) := by decide +kernel
theorem dX11_meantBy_5 : decode cX11_meantBy 5 = .ok (.iaload, 1) := by decide +kernel
theorem dX11_meantBy_6 : decode cX11_meantBy 6 = .ok (.ifCond .eq 5, 3) := by decide +kernel
theorem dX11_meantBy_9 : decode cX11_meantBy 9 = .ok (.iconst 0, 1) := by decide +kernel
theorem dX11_meantBy_10 : decode cX11_meantBy 10 = .ok (.ireturn, 1) := by decide +kernel
theorem dX11_meantBy_11 : decode cX11_meantBy 11 = .ok (.aload_n 0, 1) := by decide +kernel
theorem dX11_meantBy_12 : decode cX11_meantBy 12 = .ok (.getfield 55, 3) := by decide +kernel
theorem dX11_meantBy_15 : decode cX11_meantBy 15 = .ok (.iload_n 1, 1) := by decide +kernel
theorem dX11_meantBy_16 : decode cX11_meantBy 16 = .ok (.iaload, 1) := by decide +kernel
theorem dX11_meantBy_17 : decode cX11_meantBy 17 = .ok (.istore_n 2, 1) := by decide +kernel
theorem dX11_meantBy_18 : decode cX11_meantBy 18 = .ok (.aload_n 0, 1) := by decide +kernel
theorem dX11_meantBy_19 : decode cX11_meantBy 19 = .ok (.iload_n 2, 1) := by decide +kernel
theorem dX11_meantBy_20 : decode cX11_meantBy 20 = .ok (.iconst 4, 1) := by decide +kernel
theorem dX11_meantBy_21 : decode cX11_meantBy 21 = .ok (.invokevirtual 122, 3) := by decide +kernel
theorem dX11_meantBy_24 : decode cX11_meantBy 24 = .ok (.ifCond .eq 12, 3) := by decide +kernel
theorem dX11_meantBy_27 : decode cX11_meantBy 27 = .ok (.aload_n 0, 1) := by decide +kernel
theorem dX11_meantBy_28 : decode cX11_meantBy 28 = .ok (.getfield 34, 3) := by decide +kernel
theorem dX11_meantBy_31 : decode cX11_meantBy 31 = .ok (.iload_n 2, 1) := by decide +kernel
theorem dX11_meantBy_32 : decode cX11_meantBy 32 = .ok (.iaload, 1) := by decide +kernel
theorem dX11_meantBy_33 : decode cX11_meantBy 33 = .ok (.goto 4, 3) := by decide +kernel
theorem dX11_meantBy_36 : decode cX11_meantBy 36 = .ok (.iconst 0, 1) := by decide +kernel
theorem dX11_meantBy_37 : decode cX11_meantBy 37 = .ok (.istore_n 3, 1) := by decide +kernel
theorem dX11_meantBy_38 : decode cX11_meantBy 38 = .ok (.iconst 0, 1) := by decide +kernel
theorem dX11_meantBy_39 : decode cX11_meantBy 39 = .ok (.istore 4, 2) := by decide +kernel
theorem dX11_meantBy_41 : decode cX11_meantBy 41 = .ok (.iload 4, 2) := by decide +kernel
theorem dX11_meantBy_43 : decode cX11_meantBy 43 = .ok (.aload_n 0, 1) := by decide +kernel
theorem dX11_meantBy_44 : decode cX11_meantBy 44 = .ok (.getfield 188, 3) := by decide +kernel
theorem dX11_meantBy_47 : decode cX11_meantBy 47 = .ok (.if_icmp .ge 92, 3) := by decide +kernel
theorem dX11_meantBy_50 : decode cX11_meantBy 50 = .ok (.aload_n 0, 1) := by decide +kernel
theorem dX11_meantBy_51 : decode cX11_meantBy 51 = .ok (.getfield 79, 3) := by decide +kernel
theorem dX11_meantBy_54 : decode cX11_meantBy 54 = .ok (.iload 4, 2) := by decide +kernel
theorem dX11_meantBy_56 : decode cX11_meantBy 56 = .ok (.iaload, 1) := by decide +kernel
theorem dX11_meantBy_57 : decode cX11_meantBy 57 = .ok (.ifCond .lt 21, 3) := by decide +kernel
theorem dX11_meantBy_60 : decode cX11_meantBy 60 = .ok (.aload_n 0, 1) := by decide +kernel
theorem dX11_meantBy_61 : decode cX11_meantBy 61 = .ok (.getfield 191, 3) := by decide +kernel
theorem dX11_meantBy_64 : decode cX11_meantBy 64 = .ok (.aload_n 0, 1) := by decide +kernel
theorem dX11_meantBy_65 : decode cX11_meantBy 65 = .ok (.getfield 79, 3) := by decide +kernel
theorem dX11_meantBy_68 : decode cX11_meantBy 68 = .ok (.iload 4, 2) := by decide +kernel
theorem dX11_meantBy_70 : decode cX11_meantBy 70 = .ok (.iaload, 1) := by decide +kernel
theorem dX11_meantBy_71 : decode cX11_meantBy 71 = .ok (.ishr, 1) := by decide +kernel
theorem dX11_meantBy_72 : decode cX11_meantBy 72 = .ok (.iconst 1, 1) := by decide +kernel
theorem dX11_meantBy_73 : decode cX11_meantBy 73 = .ok (.iand, 1) := by decide +kernel
theorem dX11_meantBy_74 : decode cX11_meantBy 74 = .ok (.iconst 1, 1) := by decide +kernel
theorem dX11_meantBy_75 : decode cX11_meantBy 75 = .ok (.if_icmp .ne 7, 3) := by decide +kernel
theorem dX11_meantBy_78 : decode cX11_meantBy 78 = .ok (.iconst 1, 1) := by decide +kernel
theorem dX11_meantBy_79 : decode cX11_meantBy 79 = .ok (.goto 4, 3) := by decide +kernel
theorem dX11_meantBy_82 : decode cX11_meantBy 82 = .ok (.iconst 0, 1) := by decide +kernel
theorem dX11_meantBy_83 : decode cX11_meantBy 83 = .ok (.istore 5, 2) := by decide +kernel
theorem dX11_meantBy_85 : decode cX11_meantBy 85 = .ok (.iload_n 3, 1) := by decide +kernel
theorem dX11_meantBy_86 : decode cX11_meantBy 86 = .ok (.iload 5, 2) := by decide +kernel
theorem dX11_meantBy_88 : decode cX11_meantBy 88 = .ok (.ifCond .eq 42, 3) := by decide +kernel
theorem dX11_meantBy_91 : decode cX11_meantBy 91 = .ok (.aload_n 0, 1) := by decide +kernel
theorem dX11_meantBy_92 : decode cX11_meantBy 92 = .ok (.getfield 76, 3) := by decide +kernel
theorem dX11_meantBy_95 : decode cX11_meantBy 95 = .ok (.iload 4, 2) := by decide +kernel
theorem dX11_meantBy_97 : decode cX11_meantBy 97 = .ok (.iaload, 1) := by decide +kernel
theorem dX11_meantBy_98 : decode cX11_meantBy 98 = .ok (.iload_n 2, 1) := by decide +kernel
theorem dX11_meantBy_99 : decode cX11_meantBy 99 = .ok (.if_icmp .eq 19, 3) := by decide +kernel
theorem dX11_meantBy_102 : decode cX11_meantBy 102 = .ok (.aload_n 0, 1) := by decide +kernel
theorem dX11_meantBy_103 : decode cX11_meantBy 103 = .ok (.getfield 76, 3) := by decide +kernel
theorem dX11_meantBy_106 : decode cX11_meantBy 106 = .ok (.iload 4, 2) := by decide +kernel
theorem dX11_meantBy_108 : decode cX11_meantBy 108 = .ok (.iaload, 1) := by decide +kernel
theorem dX11_meantBy_109 : decode cX11_meantBy 109 = .ok (.aload_n 0, 1) := by decide +kernel
theorem dX11_meantBy_110 : decode cX11_meantBy 110 = .ok (.getfield 31, 3) := by decide +kernel
theorem dX11_meantBy_113 : decode cX11_meantBy 113 = .ok (.iload_n 2, 1) := by decide +kernel
theorem dX11_meantBy_114 : decode cX11_meantBy 114 = .ok (.iaload, 1) := by decide +kernel
theorem dX11_meantBy_115 : decode cX11_meantBy 115 = .ok (.if_icmp .ne 15, 3) := by decide +kernel
theorem dX11_meantBy_118 : decode cX11_meantBy 118 = .ok (.iconst 1, 1) := by decide +kernel
theorem dX11_meantBy_119 : decode cX11_meantBy 119 = .ok (.aload_n 0, 1) := by decide +kernel
theorem dX11_meantBy_120 : decode cX11_meantBy 120 = .ok (.getfield 73, 3) := by decide +kernel
theorem dX11_meantBy_123 : decode cX11_meantBy 123 = .ok (.iload 4, 2) := by decide +kernel
theorem dX11_meantBy_125 : decode cX11_meantBy 125 = .ok (.iaload, 1) := by decide +kernel
theorem dX11_meantBy_126 : decode cX11_meantBy 126 = .ok (.ishl, 1) := by decide +kernel
theorem dX11_meantBy_127 : decode cX11_meantBy 127 = .ok (.goto 4, 3) := by decide +kernel
theorem dX11_meantBy_130 : decode cX11_meantBy 130 = .ok (.iconst 0, 1) := by decide +kernel
theorem dX11_meantBy_131 : decode cX11_meantBy 131 = .ok (.ior, 1) := by decide +kernel
theorem dX11_meantBy_132 : decode cX11_meantBy 132 = .ok (.istore_n 3, 1) := by decide +kernel
theorem dX11_meantBy_133 : decode cX11_meantBy 133 = .ok (.iinc 4 1, 3) := by decide +kernel
theorem dX11_meantBy_136 : decode cX11_meantBy 136 = .ok (.goto (-95), 3) := by decide +kernel
theorem dX11_meantBy_139 : decode cX11_meantBy 139 = .ok (.iload_n 3, 1) := by decide +kernel
theorem dX11_meantBy_140 : decode cX11_meantBy 140 = .ok (.ireturn, 1) := by decide +kernel
set_option maxRecDepth 20000 in
theorem ggX11_meant_X11_isToken : GoodIn wsX11_meant wsX11_isToken := goodIn_r _ [5, 6, 7, 8, 4, 9, 28, 29, 30, 31, 32, 33, 34, 35, 36, 37, 38, 39, 40, 41, 42, 43, 44, 45, 46, 47, 48, 49, 50, 51, 52, 53, 54, 55, 56, 57, 58, 59, 60, 61, 62, 63, 64] (by decide +kernel) (by decide +kernel)
set_option maxRecDepth 20000 in
theorem gX11_meant_X11_isToken : GoodIn wsX11_meant (wsV RX11 173 RX11 yX11_isToken wsX11_isToken) := goodIn_app (goodIn_of _ (by decide +kernel)) ggX11_meant_X11_isToken
set_option maxRecDepth 20000 in
theorem ggX11_meant_X11_meantBy : GoodIn wsX11_meant wsX11_meantBy := goodIn_r _ [13, 14, 15, 16, 17, 18, 19, 20, 21, 22, 23, 24, 25, 4, 26, 27, 28, 29, 30, 31, 32, 33, 34, 35, 36, 37, 38, 39, 40, 41, 42, 43, 44, 45, 46, 47, 48, 49, 50, 51, 52, 53, 54, 55, 56, 57, 58, 59, 60, 61, 62, 63, 64] (by decide +kernel) (by decide +kernel)
set_option maxRecDepth 20000 in
theorem gX11_meant_X11_meantBy : GoodIn wsX11_meant (wsV RX11 194 RX11 yX11_meantBy wsX11_meantBy) := goodIn_app (goodIn_of _ (by decide +kernel)) ggX11_meant_X11_meantBy
theorem dX11_meant_0 : decode cX11_meant 0 = .ok (.aload_n 0, 1) := by decide +kernel
theorem dX11_meant_1 : decode cX11_meant 1 = .ok (.iload_n 1, 1) := by decide +kernel
theorem dX11_meant_2 : decode cX11_meant 2 = .ok (.invokevirtual 173, 3) := by decide +kernel
theorem dX11_meant_5 : decode cX11_meant 5 = .ok (.ifCond .eq 11, 3) := by decide +kernel
theorem dX11_meant_8 : decode cX11_meant 8 = .ok (.aload_n 0, 1) := by decide +kernel
theorem dX11_meant_9 : decode cX11_meant 9 = .ok (.iload_n 1, 1) := by decide +kernel
theorem dX11_meant_10 : decode cX11_meant 10 = .ok (.invokevirtual 194, 3) := by decide +kernel
theorem dX11_meant_13 : decode cX11_meant 13 = .ok (.goto 5, 3) := by decide +kernel
theorem dX11_meant_16 : decode cX11_meant 16 = .ok (.bipush (-2), 2) := by decide +kernel
theorem dX11_meant_18 : decode cX11_meant 18 = .ok (.ireturn, 1) := by decide +kernel
set_option maxRecDepth 20000 in
theorem ggX11_phraseAt_X11_meantBy : GoodIn wsX11_phraseAt wsX11_meantBy := goodIn_r _ [10, 3, 5, 11, 12, 13, 14, 15, 16, 17, 18, 19, 20, 9, 21, 4, 22, 23, 24, 25, 26, 27, 28, 29, 30, 31, 32, 33, 34, 35, 36, 37, 38, 39, 40, 41, 42, 43, 44, 45, 46, 47, 48, 49, 50, 51, 52, 53, 54, 55, 56, 57, 58] (by decide +kernel) (by decide +kernel)
set_option maxRecDepth 20000 in
theorem gX11_phraseAt_X11_meantBy : GoodIn wsX11_phraseAt (wsV RX11 194 RX11 yX11_meantBy wsX11_meantBy) := goodIn_app (goodIn_of _ (by decide +kernel)) ggX11_phraseAt_X11_meantBy
theorem dX11_phraseAt_0 : decode cX11_phraseAt 0 = .ok (.aload_n 0, 1) := by decide +kernel
theorem dX11_phraseAt_1 : decode cX11_phraseAt 1 = .ok (.iconst 0, 1) := by decide +kernel
theorem dX11_phraseAt_2 : decode cX11_phraseAt 2 = .ok (.putfield 197, 3) := by decide +kernel
theorem dX11_phraseAt_5 : decode cX11_phraseAt 5 = .ok (.iconst (-1), 1) := by decide +kernel
theorem dX11_phraseAt_6 : decode cX11_phraseAt 6 = .ok (.istore_n 2, 1) := by decide +kernel
theorem dX11_phraseAt_7 : decode cX11_phraseAt 7 = .ok (.iload_n 1, 1) := by decide +kernel
theorem dX11_phraseAt_8 : decode cX11_phraseAt 8 = .ok (.istore_n 3, 1) := by decide +kernel
theorem dX11_phraseAt_9 : decode cX11_phraseAt 9 = .ok (.iload_n 3, 1) := by decide +kernel
theorem dX11_phraseAt_10 : decode cX11_phraseAt 10 = .ok (.aload_n 0, 1) := by decide +kernel
theorem dX11_phraseAt_11 : decode cX11_phraseAt 11 = .ok (.getfield 170, 3) := by decide +kernel
theorem dX11_phraseAt_14 : decode cX11_phraseAt 14 = .ok (.if_icmp .ge 58, 3) := by decide +kernel
theorem dX11_phraseAt_17 : decode cX11_phraseAt 17 = .ok (.aload_n 0, 1) := by decide +kernel
theorem dX11_phraseAt_18 : decode cX11_phraseAt 18 = .ok (.getfield 46, 3) := by decide +kernel
theorem dX11_phraseAt_21 : decode cX11_phraseAt 21 = .ok (.iload_n 3, 1) := by decide +kernel
theorem dX11_phraseAt_22 : decode cX11_phraseAt 22 = .ok (.iaload, 1) := by decide +kernel
theorem dX11_phraseAt_23 : decode cX11_phraseAt 23 = .ok (.ifCond .ne 49, 3) := by decide +kernel
theorem dX11_phraseAt_26 : decode cX11_phraseAt 26 = .ok (.aload_n 0, 1) := by decide +kernel
theorem dX11_phraseAt_27 : decode cX11_phraseAt 27 = .ok (.getfield 25, 3) := by decide +kernel
theorem dX11_phraseAt_30 : decode cX11_phraseAt 30 = .ok (.aload_n 0, 1) := by decide +kernel
theorem dX11_phraseAt_31 : decode cX11_phraseAt 31 = .ok (.getfield 55, 3) := by decide +kernel
theorem dX11_phraseAt_34 : decode cX11_phraseAt 34 = .ok (.iload_n 3, 1) := by decide +kernel
theorem dX11_phraseAt_35 : decode cX11_phraseAt 35 = .ok (.iaload, 1) := by decide +kernel
theorem dX11_phraseAt_36 : decode cX11_phraseAt 36 = .ok (.iaload, 1) := by decide +kernel
theorem dX11_phraseAt_37 : decode cX11_phraseAt 37 = .ok (.bipush 22, 2) := by decide +kernel
theorem dX11_phraseAt_39 : decode cX11_phraseAt 39 = .ok (.iand, 1) := by decide +kernel
theorem dX11_phraseAt_40 : decode cX11_phraseAt 40 = .ok (.ifCond .eq 32, 3) := by decide +kernel
theorem dX11_phraseAt_43 : decode cX11_phraseAt 43 = .ok (.iload_n 2, 1) := by decide +kernel
theorem dX11_phraseAt_44 : decode cX11_phraseAt 44 = .ok (.aload_n 0, 1) := by decide +kernel
theorem dX11_phraseAt_45 : decode cX11_phraseAt 45 = .ok (.iload_n 3, 1) := by decide +kernel
theorem dX11_phraseAt_46 : decode cX11_phraseAt 46 = .ok (.invokevirtual 194, 3) := by decide +kernel
theorem dX11_phraseAt_49 : decode cX11_phraseAt 49 = .ok (.iand, 1) := by decide +kernel
theorem dX11_phraseAt_50 : decode cX11_phraseAt 50 = .ok (.ifCond .eq 22, 3) := by decide +kernel
theorem dX11_phraseAt_53 : decode cX11_phraseAt 53 = .ok (.iload_n 2, 1) := by decide +kernel
theorem dX11_phraseAt_54 : decode cX11_phraseAt 54 = .ok (.aload_n 0, 1) := by decide +kernel
theorem dX11_phraseAt_55 : decode cX11_phraseAt 55 = .ok (.iload_n 3, 1) := by decide +kernel
theorem dX11_phraseAt_56 : decode cX11_phraseAt 56 = .ok (.invokevirtual 194, 3) := by decide +kernel
theorem dX11_phraseAt_59 : decode cX11_phraseAt 59 = .ok (.iand, 1) := by decide +kernel
theorem dX11_phraseAt_60 : decode cX11_phraseAt 60 = .ok (.istore_n 2, 1) := by decide +kernel
theorem dX11_phraseAt_61 : decode cX11_phraseAt 61 = .ok (.aload_n 0, 1) := by decide +kernel
theorem dX11_phraseAt_62 : decode cX11_phraseAt 62 = .ok (.iload_n 2, 1) := by decide +kernel
theorem dX11_phraseAt_63 : decode cX11_phraseAt 63 = .ok (.putfield 197, 3) := by decide +kernel
theorem dX11_phraseAt_66 : decode cX11_phraseAt 66 = .ok (.iinc 3 1, 3) := by decide +kernel
theorem dX11_phraseAt_69 : decode cX11_phraseAt 69 = .ok (.goto (-60), 3) := by decide +kernel
theorem dX11_phraseAt_72 : decode cX11_phraseAt 72 = .ok (.iload_n 3, 1) := by decide +kernel
theorem dX11_phraseAt_73 : decode cX11_phraseAt 73 = .ok (.iload_n 1, 1) := by decide +kernel
theorem dX11_phraseAt_74 : decode cX11_phraseAt 74 = .ok (.isub, 1) := by decide +kernel
theorem dX11_phraseAt_75 : decode cX11_phraseAt 75 = .ok (.ireturn, 1) := by decide +kernel
set_option maxRecDepth 20000 in
theorem ggX11_phrase_X11_isToken : GoodIn wsX11_phrase wsX11_isToken := goodIn_r _ [6, 7, 8, 9, 5, 10, 33, 34, 35, 36, 37, 38, 39, 40, 41, 42, 43, 44, 45, 46, 47, 48, 49, 50, 51, 52, 53, 54, 55, 56, 57, 58, 59, 60, 61, 62, 63, 64, 65, 66, 67, 68, 69] (by decide +kernel) (by decide +kernel)
set_option maxRecDepth 20000 in
theorem gX11_phrase_X11_isToken : GoodIn wsX11_phrase (wsV RX11 173 RX11 yX11_isToken wsX11_isToken) := goodIn_app (goodIn_of _ (by decide +kernel)) ggX11_phrase_X11_isToken
set_option maxRecDepth 20000 in
theorem ggX11_phrase_X11_phraseAt : GoodIn wsX11_phrase wsX11_phraseAt := goodIn_r _ [14, 1, 7, 15, 16, 17, 18, 19, 20, 5, 21, 22, 23, 24, 25, 26, 27, 28, 29, 30, 31, 32, 33, 34, 35, 36, 37, 38, 39, 40, 41, 42, 43, 44, 45, 46, 47, 48, 49, 50, 51, 52, 53, 54, 55, 56, 57, 58, 59, 60, 61, 62, 63, 64, 65, 66, 67, 68, 69] (by decide +kernel) (by decide +kernel)
set_option maxRecDepth 20000 in
theorem gX11_phrase_X11_phraseAt : GoodIn wsX11_phrase (wsV RX11 200 RX11 yX11_phraseAt wsX11_phraseAt) := goodIn_app (goodIn_of _ (by decide +kernel)) ggX11_phrase_X11_phraseAt
theorem dX11_phrase_0 : decode cX11_phrase 0 = .ok (.aload_n 0, 1) := by decide +kernel
theorem dX11_phrase_1 : decode cX11_phrase 1 = .ok (.iload_n 1, 1) := by decide +kernel
theorem dX11_phrase_2 : decode cX11_phrase 2 = .ok (.invokevirtual 173, 3) := by decide +kernel
theorem dX11_phrase_5 : decode cX11_phrase 5 = .ok (.ifCond .ne 6, 3) := by decide +kernel
theorem dX11_phrase_8 : decode cX11_phrase 8 = .ok (.bipush (-2), 2) := by decide +kernel
theorem dX11_phrase_10 : decode cX11_phrase 10 = .ok (.ireturn, 1) := by decide +kernel
theorem dX11_phrase_11 : decode cX11_phrase 11 = .ok (.aload_n 0, 1) := by decide +kernel
theorem dX11_phrase_12 : decode cX11_phrase 12 = .ok (.iload_n 1, 1) := by decide +kernel
theorem dX11_phrase_13 : decode cX11_phrase 13 = .ok (.invokevirtual 200, 3) := by decide +kernel
theorem dX11_phrase_16 : decode cX11_phrase 16 = .ok (.pop, 1) := by decide +kernel
theorem dX11_phrase_17 : decode cX11_phrase 17 = .ok (.aload_n 0, 1) := by decide +kernel
theorem dX11_phrase_18 : decode cX11_phrase 18 = .ok (.getfield 197, 3) := by decide +kernel
theorem dX11_phrase_21 : decode cX11_phrase 21 = .ok (.ireturn, 1) := by decide +kernel
set_option maxRecDepth 20000 in
theorem ggX11_phraseLength_X11_isToken : GoodIn wsX11_phraseLength wsX11_isToken := goodIn_r _ [5, 6, 7, 8, 4, 9, 33, 34, 35, 36, 37, 38, 39, 40, 41, 42, 43, 44, 45, 46, 47, 48, 49, 50, 51, 52, 53, 54, 55, 56, 57, 58, 59, 60, 61, 62, 63, 64, 65, 66, 67, 68, 69] (by decide +kernel) (by decide +kernel)
set_option maxRecDepth 20000 in
theorem gX11_phraseLength_X11_isToken : GoodIn wsX11_phraseLength (wsV RX11 173 RX11 yX11_isToken wsX11_isToken) := goodIn_app (goodIn_of _ (by decide +kernel)) ggX11_phraseLength_X11_isToken
set_option maxRecDepth 20000 in
theorem ggX11_phraseLength_X11_phraseAt : GoodIn wsX11_phraseLength wsX11_phraseAt := goodIn_r _ [13, 14, 6, 15, 16, 17, 18, 19, 20, 4, 21, 22, 23, 24, 25, 26, 27, 28, 29, 30, 31, 32, 33, 34, 35, 36, 37, 38, 39, 40, 41, 42, 43, 44, 45, 46, 47, 48, 49, 50, 51, 52, 53, 54, 55, 56, 57, 58, 59, 60, 61, 62, 63, 64, 65, 66, 67, 68, 69] (by decide +kernel) (by decide +kernel)
set_option maxRecDepth 20000 in
theorem gX11_phraseLength_X11_phraseAt : GoodIn wsX11_phraseLength (wsV RX11 200 RX11 yX11_phraseAt wsX11_phraseAt) := goodIn_app (goodIn_of _ (by decide +kernel)) ggX11_phraseLength_X11_phraseAt
end
section
theorem dX11_phraseLength_0 : decode cX11_phraseLength 0 = .ok (.aload_n 0, 1) := by decide +kernel
theorem dX11_phraseLength_1 : decode cX11_phraseLength 1 = .ok (.iload_n 1, 1) := by decide +kernel
theorem dX11_phraseLength_2 : decode cX11_phraseLength 2 = .ok (.invokevirtual 173, 3) := by decide +kernel
theorem dX11_phraseLength_5 : decode cX11_phraseLength 5 = .ok (.ifCond .eq 11, 3) := by decide +kernel
theorem dX11_phraseLength_8 : decode cX11_phraseLength 8 = .ok (.aload_n 0, 1) := by decide +kernel
theorem dX11_phraseLength_9 : decode cX11_phraseLength 9 = .ok (.iload_n 1, 1) := by decide +kernel
theorem dX11_phraseLength_10 : decode cX11_phraseLength 10 = .ok (.invokevirtual 200, 3) := by decide +kernel
theorem dX11_phraseLength_13 : decode cX11_phraseLength 13 = .ok (.goto 5, 3) := by decide +kernel
theorem dX11_phraseLength_16 : decode cX11_phraseLength 16 = .ok (.bipush (-2), 2) := by decide +kernel
theorem dX11_phraseLength_18 : decode cX11_phraseLength 18 = .ok (.ireturn, 1) := by decide +kernel
set_option maxRecDepth 20000 in
theorem ggX11_about_X11_isWord : GoodIn wsX11_about wsX11_isWord := goodIn_r _ [11, 12, 13, 14, 10, 15, 16, 17, 18, 19, 20, 21, 22, 23, 24, 25, 26, 27, 28, 29, 30, 31, 32, 33, 34, 35, 36, 37, 38, 39, 40, 41, 42, 43, 44, 45, 46, 47, 48, 49, 50, 51, 52] (by decide +kernel) (by decide +kernel)
set_option maxRecDepth 20000 in
theorem gX11_about_X11_isWord : GoodIn wsX11_about (wsV RX11 119 RX11 yX11_isWord wsX11_isWord) := goodIn_app (goodIn_of _ (by decide +kernel)) ggX11_about_X11_isWord
set_option maxRecDepth 20000 in
theorem ggX11_about_X11_in : GoodIn wsX11_about wsX11_in := goodIn_r _ [15] (by decide +kernel) (by decide +kernel)
set_option maxRecDepth 20000 in
theorem gX11_about_X11_in : GoodIn wsX11_about (va_wsS RX11 86 yX11_in wsX11_in) := goodIn_app (goodIn_of _ (by decide +kernel)) ggX11_about_X11_in
theorem dX11_about_0 : decode cX11_about 0 = .ok (.aload_n 0, 1) := by decide +kernel
theorem dX11_about_1 : decode cX11_about 1 = .ok (.iload_n 1, 1) := by decide +kernel
theorem dX11_about_2 : decode cX11_about 2 = .ok (.invokevirtual 119, 3) := by decide +kernel
theorem dX11_about_5 : decode cX11_about 5 = .ok (.ifCond .eq 12, 3) := by decide +kernel
theorem dX11_about_8 : decode cX11_about 8 = .ok (.iload_n 2, 1) := by decide +kernel
theorem dX11_about_9 : decode cX11_about 9 = .ok (.iconst 0, 1) := by decide +kernel
theorem dX11_about_10 : decode cX11_about 10 = .ok (.iconst 5, 1) := by decide +kernel
theorem dX11_about_11 : decode cX11_about 11 = .ok (.invokestatic 86, 3) := by decide +kernel
theorem dX11_about_14 : decode cX11_about 14 = .ok (.ifCond .ne 6, 3) := by decide +kernel
theorem dX11_about_17 : decode cX11_about 17 = .ok (.bipush (-2), 2) := by decide +kernel
theorem dX11_about_19 : decode cX11_about 19 = .ok (.ireturn, 1) := by decide +kernel
theorem dX11_about_20 : decode cX11_about 20 = .ok (.iload_n 2, 1) := by decide +kernel
theorem dX11_about_21 : decode cX11_about 21 = .ok (.ifCond .ne 12, 3) := by decide +kernel
theorem dX11_about_24 : decode cX11_about 24 = .ok (.aload_n 0, 1) := by decide +kernel
theorem dX11_about_25 : decode cX11_about 25 = .ok (.getfield 22, 3) := by decide +kernel
theorem dX11_about_28 : decode cX11_about 28 = .ok (.iload_n 1, 1) := by decide +kernel
theorem dX11_about_29 : decode cX11_about 29 = .ok (.iaload, 1) := by decide +kernel
theorem dX11_about_30 : decode cX11_about 30 = .ok (.goto 65, 3) := by decide +kernel
theorem dX11_about_33 : decode cX11_about 33 = .ok (.iload_n 2, 1) := by decide +kernel
theorem dX11_about_34 : decode cX11_about 34 = .ok (.iconst 1, 1) := by decide +kernel
theorem dX11_about_35 : decode cX11_about 35 = .ok (.if_icmp .ne 12, 3) := by decide +kernel
theorem dX11_about_38 : decode cX11_about 38 = .ok (.aload_n 0, 1) := by decide +kernel
theorem dX11_about_39 : decode cX11_about 39 = .ok (.getfield 25, 3) := by decide +kernel
theorem dX11_about_42 : decode cX11_about 42 = .ok (.iload_n 1, 1) := by decide +kernel
theorem dX11_about_43 : decode cX11_about 43 = .ok (.iaload, 1) := by decide +kernel
theorem dX11_about_44 : decode cX11_about 44 = .ok (.goto 51, 3) := by decide +kernel
theorem dX11_about_47 : decode cX11_about 47 = .ok (.iload_n 2, 1) := by decide +kernel
theorem dX11_about_48 : decode cX11_about 48 = .ok (.iconst 2, 1) := by decide +kernel
theorem dX11_about_49 : decode cX11_about 49 = .ok (.if_icmp .ne 12, 3) := by decide +kernel
theorem dX11_about_52 : decode cX11_about 52 = .ok (.aload_n 0, 1) := by decide +kernel
theorem dX11_about_53 : decode cX11_about 53 = .ok (.getfield 28, 3) := by decide +kernel
theorem dX11_about_56 : decode cX11_about 56 = .ok (.iload_n 1, 1) := by decide +kernel
theorem dX11_about_57 : decode cX11_about 57 = .ok (.iaload, 1) := by decide +kernel
theorem dX11_about_58 : decode cX11_about 58 = .ok (.goto 37, 3) := by decide +kernel
theorem dX11_about_61 : decode cX11_about 61 = .ok (.iload_n 2, 1) := by decide +kernel
theorem dX11_about_62 : decode cX11_about 62 = .ok (.iconst 3, 1) := by decide +kernel
theorem dX11_about_63 : decode cX11_about 63 = .ok (.if_icmp .ne 12, 3) := by decide +kernel
theorem dX11_about_66 : decode cX11_about 66 = .ok (.aload_n 0, 1) := by decide +kernel
theorem dX11_about_67 : decode cX11_about 67 = .ok (.getfield 31, 3) := by decide +kernel
theorem dX11_about_70 : decode cX11_about 70 = .ok (.iload_n 1, 1) := by decide +kernel
theorem dX11_about_71 : decode cX11_about 71 = .ok (.iaload, 1) := by decide +kernel
theorem dX11_about_72 : decode cX11_about 72 = .ok (.goto 23, 3) := by decide +kernel
theorem dX11_about_75 : decode cX11_about 75 = .ok (.iload_n 2, 1) := by decide +kernel
theorem dX11_about_76 : decode cX11_about 76 = .ok (.iconst 4, 1) := by decide +kernel
theorem dX11_about_77 : decode cX11_about 77 = .ok (.if_icmp .ne 12, 3) := by decide +kernel
theorem dX11_about_80 : decode cX11_about 80 = .ok (.aload_n 0, 1) := by decide +kernel
theorem dX11_about_81 : decode cX11_about 81 = .ok (.getfield 19, 3) := by decide +kernel
theorem dX11_about_84 : decode cX11_about 84 = .ok (.iload_n 1, 1) := by decide +kernel
theorem dX11_about_85 : decode cX11_about 85 = .ok (.iaload, 1) := by decide +kernel
theorem dX11_about_86 : decode cX11_about 86 = .ok (.goto 9, 3) := by decide +kernel
theorem dX11_about_89 : decode cX11_about 89 = .ok (.aload_n 0, 1) := by decide +kernel
theorem dX11_about_90 : decode cX11_about 90 = .ok (.getfield 34, 3) := by decide +kernel
theorem dX11_about_93 : decode cX11_about 93 = .ok (.iload_n 1, 1) := by decide +kernel
theorem dX11_about_94 : decode cX11_about 94 = .ok (.iaload, 1) := by decide +kernel
theorem dX11_about_95 : decode cX11_about 95 = .ok (.ireturn, 1) := by decide +kernel
set_option maxRecDepth 20000 in
theorem ggX11_equal_X11_isWord : GoodIn wsX11_equal wsX11_isWord := goodIn_r _ [7, 8, 9, 10, 6, 11, 22, 23, 24, 25, 26, 27, 28, 29, 30, 31, 32, 33, 34, 35, 36, 37, 38, 39, 40, 41, 42, 43, 44, 45, 46, 47, 48, 49, 50, 51, 52, 53, 54, 55, 56, 57, 58] (by decide +kernel) (by decide +kernel)
set_option maxRecDepth 20000 in
theorem gX11_equal_X11_isWord : GoodIn wsX11_equal (wsV RX11 119 RX11 yX11_isWord wsX11_isWord) := goodIn_app (goodIn_of _ (by decide +kernel)) ggX11_equal_X11_isWord
set_option maxRecDepth 20000 in
theorem ggX11_equal_X11_isLike : GoodIn wsX11_equal wsX11_isLike := goodIn_r _ [15, 16, 2, 1, 17, 18, 19, 6, 20, 21, 9, 10, 11, 22, 23, 24, 25, 26, 27, 28, 29, 30, 31, 32, 33, 34, 35, 36, 37, 38, 39, 40, 41, 42, 43, 44, 45, 46, 47, 48, 49, 50, 51, 52, 53, 54, 55, 56, 57, 58] (by decide +kernel) (by decide +kernel)
set_option maxRecDepth 20000 in
theorem gX11_equal_X11_isLike : GoodIn wsX11_equal (wsV RX11 107 RX11 yX11_isLike wsX11_isLike) := goodIn_app (goodIn_of _ (by decide +kernel)) ggX11_equal_X11_isLike
theorem dX11_equal_0 : decode cX11_equal 0 = .ok (.aload_n 0, 1) := by decide +kernel
theorem dX11_equal_1 : decode cX11_equal 1 = .ok (.iload_n 1, 1) := by decide +kernel
theorem dX11_equal_2 : decode cX11_equal 2 = .ok (.invokevirtual 119, 3) := by decide +kernel
theorem dX11_equal_5 : decode cX11_equal 5 = .ok (.ifCond .eq 11, 3) := by decide +kernel
theorem dX11_equal_8 : decode cX11_equal 8 = .ok (.aload_n 0, 1) := by decide +kernel
theorem dX11_equal_9 : decode cX11_equal 9 = .ok (.iload_n 2, 1) := by decide +kernel
theorem dX11_equal_10 : decode cX11_equal 10 = .ok (.invokevirtual 119, 3) := by decide +kernel
theorem dX11_equal_13 : decode cX11_equal 13 = .ok (.ifCond .ne 6, 3) := by decide +kernel
theorem dX11_equal_16 : decode cX11_equal 16 = .ok (.bipush (-2), 2) := by decide +kernel
theorem dX11_equal_18 : decode cX11_equal 18 = .ok (.ireturn, 1) := by decide +kernel
theorem dX11_equal_19 : decode cX11_equal 19 = .ok (.aload_n 0, 1) := by decide +kernel
theorem dX11_equal_20 : decode cX11_equal 20 = .ok (.aload_n 0, 1) := by decide +kernel
theorem dX11_equal_21 : decode cX11_equal 21 = .ok (.getfield 16, 3) := by decide +kernel
theorem dX11_equal_24 : decode cX11_equal 24 = .ok (.bipush 20, 2) := by decide +kernel
theorem dX11_equal_26 : decode cX11_equal 26 = .ok (.iload_n 1, 1) := by decide +kernel
theorem dX11_equal_27 : decode cX11_equal 27 = .ok (.imul, 1) := by decide +kernel
theorem dX11_equal_28 : decode cX11_equal 28 = .ok (.aload_n 0, 1) := by decide +kernel
theorem dX11_equal_29 : decode cX11_equal 29 = .ok (.getfield 19, 3) := by decide +kernel
theorem dX11_equal_32 : decode cX11_equal 32 = .ok (.iload_n 1, 1) := by decide +kernel
theorem dX11_equal_33 : decode cX11_equal 33 = .ok (.iaload, 1) := by decide +kernel
theorem dX11_equal_34 : decode cX11_equal 34 = .ok (.iload_n 2, 1) := by decide +kernel
theorem dX11_equal_35 : decode cX11_equal 35 = .ok (.invokevirtual 107, 3) := by decide +kernel
theorem dX11_equal_38 : decode cX11_equal 38 = .ok (.ifCond .eq 7, 3) := by decide +kernel
theorem dX11_equal_41 : decode cX11_equal 41 = .ok (.iconst 1, 1) := by decide +kernel
theorem dX11_equal_42 : decode cX11_equal 42 = .ok (.goto 4, 3) := by decide +kernel
theorem dX11_equal_45 : decode cX11_equal 45 = .ok (.iconst 0, 1) := by decide +kernel
theorem dX11_equal_46 : decode cX11_equal 46 = .ok (.ireturn, 1) := by decide +kernel
theorem dX11_told_0 : decode cX11_told 0 = .ok (.iload_n 1, 1) := by decide +kernel
theorem dX11_told_1 : decode cX11_told 1 = .ok (.ifCond .ne 10, 3) := by decide +kernel
theorem dX11_told_4 : decode cX11_told 4 = .ok (.aload_n 0, 1) := by decide +kernel
theorem dX11_told_5 : decode cX11_told 5 = .ok (.getfield 100, 3) := by decide +kernel
theorem dX11_told_8 : decode cX11_told 8 = .ok (.goto 78, 3) := by decide +kernel
theorem dX11_told_11 : decode cX11_told 11 = .ok (.iload_n 1, 1) := by decide +kernel
theorem dX11_told_12 : decode cX11_told 12 = .ok (.iconst 1, 1) := by decide +kernel
theorem dX11_told_13 : decode cX11_told 13 = .ok (.if_icmp .ne 10, 3) := by decide +kernel
theorem dX11_told_16 : decode cX11_told 16 = .ok (.aload_n 0, 1) := by decide +kernel
theorem dX11_told_17 : decode cX11_told 17 = .ok (.getfield 90, 3) := by decide +kernel
theorem dX11_told_20 : decode cX11_told 20 = .ok (.goto 66, 3) := by decide +kernel
theorem dX11_told_23 : decode cX11_told 23 = .ok (.iload_n 1, 1) := by decide +kernel
theorem dX11_told_24 : decode cX11_told 24 = .ok (.iconst 2, 1) := by decide +kernel
theorem dX11_told_25 : decode cX11_told 25 = .ok (.if_icmp .ne 10, 3) := by decide +kernel
theorem dX11_told_28 : decode cX11_told 28 = .ok (.aload_n 0, 1) := by decide +kernel
theorem dX11_told_29 : decode cX11_told 29 = .ok (.getfield 93, 3) := by decide +kernel
theorem dX11_told_32 : decode cX11_told 32 = .ok (.goto 54, 3) := by decide +kernel
theorem dX11_told_35 : decode cX11_told 35 = .ok (.iload_n 1, 1) := by decide +kernel
theorem dX11_told_36 : decode cX11_told 36 = .ok (.iconst 3, 1) := by decide +kernel
theorem dX11_told_37 : decode cX11_told 37 = .ok (.if_icmp .ne 10, 3) := by decide +kernel
theorem dX11_told_40 : decode cX11_told 40 = .ok (.aload_n 0, 1) := by decide +kernel
theorem dX11_told_41 : decode cX11_told 41 = .ok (.getfield 126, 3) := by decide +kernel
theorem dX11_told_44 : decode cX11_told 44 = .ok (.goto 42, 3) := by decide +kernel
theorem dX11_told_47 : decode cX11_told 47 = .ok (.iload_n 1, 1) := by decide +kernel
theorem dX11_told_48 : decode cX11_told 48 = .ok (.iconst 4, 1) := by decide +kernel
theorem dX11_told_49 : decode cX11_told 49 = .ok (.if_icmp .ne 10, 3) := by decide +kernel
theorem dX11_told_52 : decode cX11_told 52 = .ok (.aload_n 0, 1) := by decide +kernel
theorem dX11_told_53 : decode cX11_told 53 = .ok (.getfield 170, 3) := by decide +kernel
theorem dX11_told_56 : decode cX11_told 56 = .ok (.goto 30, 3) := by decide +kernel
theorem dX11_told_59 : decode cX11_told 59 = .ok (.iload_n 1, 1) := by decide +kernel
theorem dX11_told_60 : decode cX11_told 60 = .ok (.iconst 5, 1) := by decide +kernel
theorem dX11_told_61 : decode cX11_told 61 = .ok (.if_icmp .ne 10, 3) := by decide +kernel
theorem dX11_told_64 : decode cX11_told 64 = .ok (.aload_n 0, 1) := by decide +kernel
theorem dX11_told_65 : decode cX11_told 65 = .ok (.getfield 185, 3) := by decide +kernel
theorem dX11_told_68 : decode cX11_told 68 = .ok (.goto 18, 3) := by decide +kernel
theorem dX11_told_71 : decode cX11_told 71 = .ok (.iload_n 1, 1) := by decide +kernel
theorem dX11_told_72 : decode cX11_told 72 = .ok (.bipush 6, 2) := by decide +kernel
theorem dX11_told_74 : decode cX11_told 74 = .ok (.if_icmp .ne 10, 3) := by decide +kernel
theorem dX11_told_77 : decode cX11_told 77 = .ok (.aload_n 0, 1) := by decide +kernel
theorem dX11_told_78 : decode cX11_told 78 = .ok (.getfield 188, 3) := by decide +kernel
theorem dX11_told_81 : decode cX11_told 81 = .ok (.goto 5, 3) := by decide +kernel
theorem dX11_told_84 : decode cX11_told 84 = .ok (.bipush (-2), 2) := by decide +kernel
theorem dX11_told_86 : decode cX11_told 86 = .ok (.ireturn, 1) := by decide +kernel
theorem dJ9_max_7cf53_0 : decode cJ9_max_7cf53 0 = .ok (.iload_n 0, 1) := by decide +kernel
theorem dJ9_max_7cf53_1 : decode cJ9_max_7cf53 1 = .ok (.iload_n 1, 1) := by decide +kernel
theorem dJ9_max_7cf53_2 : decode cJ9_max_7cf53 2 = .ok (.if_icmp .lt 7, 3) := by decide +kernel
theorem dJ9_max_7cf53_5 : decode cJ9_max_7cf53 5 = .ok (.iload_n 0, 1) := by decide +kernel
theorem dJ9_max_7cf53_6 : decode cJ9_max_7cf53 6 = .ok (.goto 4, 3) := by decide +kernel
theorem dJ9_max_7cf53_9 : decode cJ9_max_7cf53 9 = .ok (.iload_n 1, 1) := by decide +kernel
theorem dJ9_max_7cf53_10 : decode cJ9_max_7cf53 10 = .ok (.ireturn, 1) := by decide +kernel
theorem dJ9_min_7cf53_0 : decode cJ9_min_7cf53 0 = .ok (.iload_n 0, 1) := by decide +kernel
theorem dJ9_min_7cf53_1 : decode cJ9_min_7cf53 1 = .ok (.iload_n 1, 1) := by decide +kernel
theorem dJ9_min_7cf53_2 : decode cJ9_min_7cf53 2 = .ok (.if_icmp .gt 7, 3) := by decide +kernel
theorem dJ9_min_7cf53_5 : decode cJ9_min_7cf53 5 = .ok (.iload_n 0, 1) := by decide +kernel
theorem dJ9_min_7cf53_6 : decode cJ9_min_7cf53 6 = .ok (.goto 4, 3) := by decide +kernel
theorem dJ9_min_7cf53_9 : decode cJ9_min_7cf53 9 = .ok (.iload_n 1, 1) := by decide +kernel
theorem dJ9_min_7cf53_10 : decode cJ9_min_7cf53 10 = .ok (.ireturn, 1) := by decide +kernel
end
section
/-! contracts that only read, contracts that change their own cells, and how both are called -/
def bI (b : Bool) : Int32 := if b then 1 else 0
theorem bI_0 {b : Bool} : bI b = 0 ↔ b = false := by cases b <;> simp [bI]
theorem bI_n0 {b : Bool} : ¬ bI b = 0 ↔ b = true := by cases b <;> simp [bI]
theorem bI_1 {b : Bool} : bI b = 1 ↔ b = true := by cases b <;> simp [bI]
theorem bI_nar (b : Bool) : narrow .boolean (.int (bI b)) = .int (bI b) := by cases b <;> rfl
theorem bI_fit (b : Bool) : fits .boolean (.int (bI b)) = true := by cases b <;> rfl
abbrev ty3 (cI cJ cW : ClassId) : List (ClassId × FieldType) := [(cI, .int), (cJ, .object "WordTables$Join"), (cW, .object "WordTables$Word")]
def rP (D : va_G) (tys : List (ClassId × FieldType)) (wo : va_W) : State → Prop := fun U => va_P D vwCl wo U.heap ∧ va_K D vwCl tys U
def mP (D : va_G) (tys : List (ClassId × FieldType)) (wo : va_W) (sz : Nat) : State → Prop := fun U => U.heap.size = sz ∧ va_P D vwCl wo U.heap ∧ va_K D vwCl tys U ∧ va_D (fun _ => True) wo
def mQ (r : Option Value) (D : va_G) (w1 : va_W) (A : Nat → Prop) : Array Value → State → Outcome → State → Prop := fun _ st oc t => oc = .returned r ∧ va_P D vwCl w1 t.heap ∧ va_F A st t
abbrev RO (l : Launch) (y : MethodName) (ws : List Cond) (rm : Room) (D : va_G) (tys : List (ClassId × FieldType)) (as : List Value) (wo : va_W) (r : Value) : Prop := Met l y ws rm (va_Pc as (rP D tys wo)) (k2_QcV r) 0 0 (fun _ => False)
abbrev MU (l : Launch) (y : MethodName) (ws : List Cond) (rm : Room) (D : va_G) (tys : List (ClassId × FieldType)) (as : List Value) (wo : va_W) (sz : Nat) (r : Option Value) (w1 : va_W) : Prop := Met l y ws rm (va_Pc as (mP D tys wo sz)) (mQ r D w1 (va_A wo sz)) 0 0 (va_A wo sz)
theorem rP_blind {as : List Value} {D : va_G} {tys : List (ClassId × FieldType)} {wo : va_W} : FrameBlind (va_Pc as (rP D tys wo)) := fun a U g mk q => ⟨q.1, q.2.1, va_K.moved (u := U) (U := U.calling g mk a) (Vm.Alike.refl U.vm) q.2.2⟩
theorem mP_blind {as : List Value} {D : va_G} {tys : List (ClassId × FieldType)} {wo : va_W} {sz : Nat} : FrameBlind (va_Pc as (mP D tys wo sz)) := fun a U g mk q => ⟨q.1, q.2.1, q.2.2.1, va_K.moved (u := U) (U := U.calling g mk a) (Vm.Alike.refl U.vm) q.2.2.2.1, q.2.2.2.2⟩
/-- the cells of a world put back in their places -/
def sA (ws : va_W) : List Nat → va_W → va_W
  | i :: is, q :: qs => sA (ws.set i q) is qs
  | _, _ => ws
theorem sA_P {D : va_G} {cl : List vw_C} {H1 : Heap} : ∀ (is : List Nat) (qs : va_W) (ws : va_W), is.length = qs.length → (∀ (k : Nat) (q : Nat × va_E), ws[k]? = some q → k ∉ is → va_at D cl q H1) → (∀ q ∈ qs, va_at D cl q H1) → va_P D cl (sA ws is qs) H1
  | [], [], ws, _, h, _ => fun k q hk => h k q hk (by simp)
  | i :: is, q :: qs, ws, hl, h, hq => by
    refine sA_P is qs (ws.set i q) (by simpa using hl) (fun k x hk hn => ?_) (fun x hx => hq x (List.mem_cons_of_mem _ hx))
    by_cases hki : k = i
    · subst hki
      have hlt : k < ws.length := by
        have := (List.getElem?_eq_some_iff.mp hk).1
        simpa using this
      rw [List.getElem?_set_self hlt] at hk
      cases hk
      exact hq q List.mem_cons_self
    · rw [List.getElem?_set_ne (Ne.symm hki)] at hk
      exact h k x hk (by simp [hki, hn])
theorem va_D_map {A : Nat → Prop} {ws ws' : va_W} (hm : ws'.map (·.1) = ws.map (·.1)) (hD : va_D A ws) : va_D A ws' := by
  have key : ∀ (k : Nat) (q : Nat × va_E), ws'[k]? = some q → ∃ q0, ws[k]? = some q0 ∧ q0.1 = q.1 := by
    intro k q hk
    have h1 : (ws'.map (·.1))[k]? = some q.1 := by rw [List.getElem?_map, hk]; rfl
    rw [hm, List.getElem?_map] at h1
    cases h2 : ws[k]? with
    | none => rw [h2] at h1; cases h1
    | some q0 => rw [h2] at h1; exact ⟨q0, rfl, Option.some.inj h1⟩
  refine ⟨fun i j x y hi hj hxy => ?_, fun k q hk => ?_⟩
  · obtain ⟨x0, h1, h2⟩ := key i x hi
    obtain ⟨y0, h3, h4⟩ := key j y hj
    exact hD.1 i j x0 y0 h1 h3 (h2.trans (hxy.trans h4.symm))
  · obtain ⟨q0, h1, h2⟩ := key k q hk
    rw [← h2]
    exact hD.2 k q0 h1
theorem jn_at {is : List Nat} {ws w : va_W} (hs : is.map (fun i => ws[i]?) = w.map some) {k : Nat} {q : Nat × va_E} (hq : w[k]? = some q) : ∃ i, is[k]? = some i ∧ ws[i]? = some q := by
  have h1 : (is.map (fun i => ws[i]?))[k]? = some (some q) := by rw [hs, List.getElem?_map, hq]; rfl
  rw [List.getElem?_map] at h1
  cases hi : is[k]? with
  | none => rw [hi] at h1; cases h1
  | some i => rw [hi] at h1; exact ⟨i, rfl, Option.some.inj h1⟩
theorem jn_set {A0 : Nat → Prop} {D : va_G} {cl : List vw_C} {ws wc w1 : va_W} {H H1 : Heap} (hP : va_P D cl ws H) (hD : va_D A0 ws) (isC : List Nat) (hC : isC.map (fun i => ws[i]?) = wc.map some) (hl : isC.length = w1.length)
    (hk : ∀ q : Nat, q < H.size → ¬ va_A wc H.size q → H1[q]? = H[q]?) (hP1 : va_P D cl w1 H1) : va_P D cl (sA ws isC w1) H1 := by
  refine sA_P isC w1 ws hl (fun k q hq hn => ?_) (fun q hq => ?_)
  · have hat := hP k q hq
    refine hat.kept (hk q.1 hat.lt (fun h => ?_))
    rcases h with ⟨j, e, h⟩ | h
    · obtain ⟨i, h1, h2⟩ := jn_at hC h
      have := hD.1 k i q (q.1, e) hq h2 rfl
      subst this
      exact hn (List.mem_of_getElem? h1)
    · exact absurd hat.lt (by omega)
  · obtain ⟨i, hi⟩ := List.getElem?_of_mem hq
    exact hP1 i q hi
section BASE
variable {p : Program} {l : Launch} {e : Env} {R : Room} {s : State} {m : MethodId} {args : Array Value} {below : List Frame} {meth : Method} {c : Code} {H : Heap} {locs : List Loc} {cells slots : Nat} {Q : State → Prop}
variable {D : va_G} {tys : List (ClassId × FieldType)} {cc bytes : ByteArray} {pc nL maxL n index : Nat} {ls : Array Slot} {rest st As : List Value} {y : MethodName} {ret : Option FieldType} {ws ws' Ts : List Cond} {rm : Room} {own C : String} {b : Nat} {r : Value}
/-- what a body has -/
abbrev Cx (p : Program) (s : State) (m : MethodId) (args : Array Value) (meth : Method) (c : Code) (cc : ByteArray) (ret : Option FieldType) (nL : Nat) (Ts : List Cond) (own : String) : Prop :=
  p.tables.exec = Jvm.exec ∧ c.code = cc ∧ c.maxLocals = nL ∧ s.vm.findClass own = some m.cls ∧ (∀ w ∈ Ts, w.before args s = true) ∧ meth.sig.returnType = ret ∧ meth.locks = false
theorem ro_of {wo : va_W} {as : List Value} (hy : plainName y.cls = true) (hw : ws = Cond.code y cc maxL ret :: ws') (hlen : (lg_sl as).length ≤ maxL)
    (body : ∀ (p : Program) (e : Env) (s : State) (m : MethodId) (below : List Frame) (meth : Method) (c : Code), Cx p s m as.toArray meth c cc ret maxL ws y.cls → va_P D vwCl wo s.heap → va_K D vwCl tys s → ∀ ls : Array Slot, lv_has ls maxL (lv_args 0 as) →
      W p l e rm s m as.toArray below meth c s.heap [] 0 0 (MQ below (k2_QcV r) as.toArray s 0 0 (fun _ => False)) (F0 m 0 ls [])) : RO l y ws rm D tys as wo r := by
  refine Met.ofW (cc := cc) (maxL := maxL) (ret := ret) hy hw ?_
  intro p e s m args below meth c s₁ B hml hv
  obtain ⟨rfl, hP, hK⟩ := hv
  have hl := lv_entry as (n := maxL) hlen
  rw [lg_entry_eq]
  exact body p e s m below meth c ⟨B.exec, B.bytes, hml, findClass_of_methodNamed B.named, atoms_spec (ws := ws) B.pre, B.returns, B.notSynchronized⟩ hP hK _ hl
theorem mu_of {wo w1 : va_W} {as : List Value} {sz : Nat} {r : Option Value} (hy : plainName y.cls = true) (hw : ws = Cond.code y cc maxL ret :: ws') (hlen : (lg_sl as).length ≤ maxL)
    (body : ∀ (p : Program) (e : Env) (s : State) (m : MethodId) (below : List Frame) (meth : Method) (c : Code), Cx p s m as.toArray meth c cc ret maxL ws y.cls → va_K D vwCl tys s → ∀ A : Nat → Prop, (∀ q : Nat, s.heap.size ≤ q → A q) → va_P D vwCl wo s.heap → va_D A wo → va_S A s.heap s.heap [] → ∀ ls : Array Slot, lv_has ls maxL (lv_args 0 as) →
      W p l e rm s m as.toArray below meth c s.heap [] 0 0 (MQ below (mQ r D w1 A) as.toArray s 0 0 A) (F0 m 0 ls [])) : MU l y ws rm D tys as wo sz r w1 := by
  refine Met.ofW (cc := cc) (maxL := maxL) (ret := ret) hy hw ?_
  intro p e s m args below meth c s₁ B hml hv
  obtain ⟨rfl, hsz, hP, hK, hD0⟩ := hv
  subst hsz
  have hl := lv_entry as (n := maxL) hlen
  rw [lg_entry_eq]
  exact body p e s m below meth c ⟨B.exec, B.bytes, hml, findClass_of_methodNamed B.named, atoms_spec (ws := ws) B.pre, B.returns, B.notSynchronized⟩ hK _ (fun q h => Or.inr h) hP (hD0.self (sz := s.heap.size)) va_S.rf _ hl
theorem ro_iret {v r : Int32} {free : Addr → Prop} (X : Cx p s m args meth c cc (some .int) nL Ts own) (hv : v = r) (hdg : decode cc pc = .ok (.ireturn, 1)) : W p l e R s m args below meth c s.heap [] 0 0 (MQ below (k2_QcV (.int r)) args s 0 0 free) (F0 m pc ls [.int v]) := by
  subst hv
  obtain ⟨hx, hb, -, -, -, hr, hlocks⟩ := X
  exact W.iret hx hb hr (fun t ht _ => ⟨rfl, ht⟩) (fun q h => by cases h) hdg hlocks
theorem ro_zret {v : Int32} {b : Bool} {free : Addr → Prop} (X : Cx p s m args meth c cc (some .boolean) nL Ts own) (hv : v = bI b) (hdg : decode cc pc = .ok (.ireturn, 1)) : W p l e R s m args below meth c s.heap [] 0 0 (MQ below (k2_QcV (.int (bI b))) args s 0 0 free) (F0 m pc ls [.int v]) := by
  subst hv
  obtain ⟨hx, hb, -, -, -, hr, hlocks⟩ := X
  exact W.zret hx hb hr (bI_nar b) (fun t ht _ => ⟨rfl, ht⟩) (fun q h => by cases h) hdg hlocks
theorem ro_aret {v : Value} {x : Option Nat} {free : Addr → Prop} {N : String} (X : Cx p s m args meth c cc (some (.object N)) nL Ts own) (hv : v = va_rf x) (hdg : decode cc pc = .ok (.areturn, 1)) : W p l e R s m args below meth c s.heap [] 0 0 (MQ below (k2_QcV (va_rf x)) args s 0 0 free) (F0 m pc ls [v]) := by
  subst hv
  obtain ⟨hx, hb, -, -, -, hr, hlocks⟩ := X
  refine W.aret hx hb hr (Or.inl ⟨N, rfl⟩) ?_ (fun t ht _ => ⟨rfl, ht⟩) (fun q h => by cases h) hdg hlocks
  cases x
  · exact Or.inl rfl
  · exact Or.inr ⟨_, rfl⟩
theorem mu_iret {A : Nat → Prop} {w w1 : va_W} {v r : Int32} (X : Cx p s m args meth c cc (some .int) nL Ts own) (hP : va_P D vwCl w H) (hS : va_S A s.heap H locs) (hv : v = r) (hw : w = w1) (hdg : decode cc pc = .ok (.ireturn, 1)) : W p l e R s m args below meth c H locs 0 0 (MQ below (mQ (some (.int r)) D w1 A) args s 0 0 A) (F0 m pc ls [.int v]) := by
  subst hv; subst hw
  obtain ⟨hx, hb, -, -, -, hr, hlocks⟩ := X
  exact W.iret hx hb hr (fun t ht _ => ⟨rfl, by rw [ht]; exact hP, hS.F ht⟩) hS.2.2 hdg hlocks
theorem mu_zret {A : Nat → Prop} {w w1 : va_W} {v : Int32} {b : Bool} (X : Cx p s m args meth c cc (some .boolean) nL Ts own) (hP : va_P D vwCl w H) (hS : va_S A s.heap H locs) (hv : v = bI b) (hw : w = w1) (hdg : decode cc pc = .ok (.ireturn, 1)) : W p l e R s m args below meth c H locs 0 0 (MQ below (mQ (some (.int (bI b))) D w1 A) args s 0 0 A) (F0 m pc ls [.int v]) := by
  subst hv; subst hw
  obtain ⟨hx, hb, -, -, -, hr, hlocks⟩ := X
  exact W.zret hx hb hr (bI_nar b) (fun t ht _ => ⟨rfl, by rw [ht]; exact hP, hS.F ht⟩) hS.2.2 hdg hlocks
theorem mu_vret {A : Nat → Prop} {w w1 : va_W} (X : Cx p s m args meth c cc none nL Ts own) (hP : va_P D vwCl w H) (hS : va_S A s.heap H locs) (hw : w = w1) (hdg : decode cc pc = .ok (.return_, 1)) : W p l e R s m args below meth c H locs 0 0 (MQ below (mQ none D w1 A) args s 0 0 A) (F0 m pc ls []) := by
  subst hw
  obtain ⟨hx, hb, -, -, -, hr, hlocks⟩ := X
  exact W.vret hx hb hr (fun t ht _ => ⟨rfl, by rw [ht]; exact hP, hS.F ht⟩) hS.2.2 hdg hlocks
/-- a call of a method that only reads -/
theorem ro_V {wo : va_W} (X : Cx p s m args meth c cc ret nL Ts own) (hK : va_K D vwCl tys s) {bret : Option FieldType} (hM : RO l y ws rm D tys (.ref b :: As) wo r) (hT : GoodIn Ts (wsV own index C y ws)) (hw : ws = Cond.code y bytes maxL bret :: ws')
    (hd : y.cls = C ∧ y.cls ≠ "java/lang/invoke/MethodHandle" ∧ y.cls ≠ "java/lang/invoke/VarHandle" ∧ (parseMethodDescriptor y.desc).map (fun d => d.parameters.length) = some n) (hrm : rm.cells = 0 ∧ rm.slots = 0) (hR : rm.frames + 1 ≤ R.frames ∧ 8 + (maxL + 11) + rm.locals ≤ R.locals)
    (hH : va_P D vwCl wo H) (hrv : ∃ cellB : Cell, H[b]? = some cellB ∧ cellB.vm.isStatics = false ∧ s.vm.findClass C = some cellB.cls) (hn : As.length = n) (hsz : ls.size = nL) (hst : st = As.reverse ++ .ref b :: rest) (hW : (rest.map fun v => v.category).sum ≤ 8) (hdg : decode cc pc = .ok (.invokevirtual index, 3)) (hf : cells ≤ R.cells ∧ slots ≤ R.slots)
    (kk : W p l e R s m args below meth c H locs cells slots Q (F0 m (pc + 3) ls (r :: rest))) : W p l e R s m args below meth c H locs cells slots Q (F0 m pc ls st) := by
  subst hst
  obtain ⟨hx, hb, hml, hown, hts, -, -⟩ := X
  exact W.callV (W.runV ⟨hx, hb, hml, hown, hts⟩ hM (cwV n hts hT hw hrm.1 hrm.2 hd hR) ⟨rP_blind, hrv, fun U hU hWm => ⟨rfl, by rw [hU]; exact hH, va_K.moved hWm.alike hK⟩⟩ rfl hn hsz rfl (lv_room hW) hdg ⟨hf.1, hf.2⟩) kk
theorem ro_S {wo : va_W} (X : Cx p s m args meth c cc ret nL Ts own) (hK : va_K D vwCl tys s) {bret : Option FieldType} (hM : RO l y ws rm D tys As wo r) (hT : GoodIn Ts (va_wsS own index y ws)) (hw : ws = Cond.code y bytes maxL bret :: ws')
    (hd : y.cls ≠ "java/lang/invoke/MethodHandle" ∧ y.cls ≠ "java/lang/invoke/VarHandle" ∧ (parseMethodDescriptor y.desc).map (fun d => d.parameters.length) = some n) (hrm : rm.cells = 0 ∧ rm.slots = 0) (hR : rm.frames + 1 ≤ R.frames ∧ 8 + (maxL + 11) + rm.locals ≤ R.locals)
    (hH : va_P D vwCl wo H) (hn : As.length = n) (hsz : ls.size = nL) (hst : st = As.reverse ++ rest) (hW : (rest.map fun v => v.category).sum ≤ 8) (hdg : decode cc pc = .ok (.invokestatic index, 3)) (hf : cells ≤ R.cells ∧ slots ≤ R.slots)
    (kk : W p l e R s m args below meth c H locs cells slots Q (F0 m (pc + 3) ls (r :: rest))) : W p l e R s m args below meth c H locs cells slots Q (F0 m pc ls st) := by
  subst hst
  obtain ⟨hx, hb, hml, hown, hts, -, -⟩ := X
  exact W.callV (W.runS ⟨hx, hb, hml, hown, hts⟩ hM (va_cwS n hts hT hw hrm.1 hrm.2 hd hR) ⟨rP_blind, fun U hU hWm => ⟨rfl, by rw [hU]; exact hH, va_K.moved hWm.alike hK⟩⟩ rfl hn hsz rfl (lv_room hW) hdg ⟨hf.1, hf.2⟩) kk
/-- a call of a method that changes its own cells: they go back to their places -/
theorem mu_V {A0 : Nat → Prop} {ws0 wc w1 : va_W} {ro : Option Value} (X : Cx p s m args meth c cc ret nL Ts own) (hK : va_K D vwCl tys s) {bret : Option FieldType} (hM : MU l y ws rm D tys (.ref b :: As) wc H.size ro w1) (hT : GoodIn Ts (wsV own index C y ws)) (hw : ws = Cond.code y bytes maxL bret :: ws')
    (hd : y.cls = C ∧ y.cls ≠ "java/lang/invoke/MethodHandle" ∧ y.cls ≠ "java/lang/invoke/VarHandle" ∧ (parseMethodDescriptor y.desc).map (fun d => d.parameters.length) = some n) (hrm : rm.cells = 0 ∧ rm.slots = 0) (hR : rm.frames + 1 ≤ R.frames ∧ 8 + (maxL + 11) + rm.locals ≤ R.locals)
    (isC : List Nat) (hnd : va_nd isC = true) (hC : isC.map (fun i => ws0[i]?) = wc.map some) (hl1 : isC.length = w1.length) (hm1 : (sA ws0 isC w1).map (·.1) = ws0.map (·.1)) (hA : ∀ q : Nat, s.heap.size ≤ q → A0 q) (hP : va_P D vwCl ws0 H) (hD : va_D A0 ws0) (hS : va_S A0 s.heap H locs)
    (hrv : ∃ cellB : Cell, H[b]? = some cellB ∧ cellB.vm.isStatics = false ∧ s.vm.findClass C = some cellB.cls) (hn : As.length = n) (hsz : ls.size = nL) (hst : st = As.reverse ++ .ref b :: rest) (hW : (rest.map fun v => v.category).sum ≤ 8) (hdg : decode cc pc = .ok (.invokevirtual index, 3)) (hf : cells ≤ R.cells ∧ slots ≤ R.slots)
    (kk : ∀ (H1 : Heap) (locs1 : List Loc), va_P D vwCl (sA ws0 isC w1) H1 → va_D A0 (sA ws0 isC w1) → va_S A0 s.heap H1 locs1 → W p l e R s m args below meth c H1 locs1 cells slots Q (F0 m (pc + 3) ls (ro.toList ++ rest))) : W p l e R s m args below meth c H locs cells slots Q (F0 m pc ls st) := by
  subst hst
  obtain ⟨hx, hb, hml, hown, hts, -, -⟩ := X
  have hPc : va_P D vwCl wc H := fun k q hk => by
    obtain ⟨i, -, h2⟩ := jn_at hC hk
    exact hP i q h2
  have hDc : va_D A0 wc := hD.sub isC hnd hC
  have hFc := va_free (wc := wc) hD hS hA isC hC
  have hr := va_runV (locs := locs) (cells := cells) (slots := slots) (e := e) (below := below) (meth := meth) (g := F0 m pc ls (As.reverse ++ .ref b :: rest)) ⟨hx, hb, hml, hown, hts⟩ hM (cwV n hts hT hw hrm.1 hrm.2 hd hR) ⟨mP_blind, hrv, fun U hU hWm => ⟨rfl, by rw [hU], by rw [hU]; exact hPc, va_K.moved hWm.alike hK, hDc.weaken (fun _ _ _ _ => trivial)⟩⟩ rfl hn hsz rfl (lv_room hW) hdg ⟨hf.1, hf.2⟩
  intro T hT' X
  obtain ⟨v, st₀, t, T', L, h0, X', hL, e1, e2, ⟨hv, hp, hz, hk⟩, stp⟩ := hr T hT' X
  cases hv
  rw [h0] at hz hk
  have hkH : ∀ q : Nat, q < H.size → ¬ va_A wc H.size q → T'.heap[q]? = H[q]? := fun q h1 h2 => by rw [e1]; exact hk q h1 h2
  obtain ⟨t2, a1, b1⟩ := kk T'.heap (locs ++ L) (jn_set hP hD isC hC hl1 hkH (by rw [e1]; exact hp)) (va_D_map hm1 hD)
    ⟨Nat.le_trans hS.1 (by rw [e1]; exact hz), fun q h1 h2 => by rw [hkH q (Nat.lt_of_lt_of_le h1 hS.1) (fun z => h2 (hFc q z))]; exact hS.2.1 q h1 h2, fun q hq => by
      rcases List.mem_append.mp hq with h | h
      · exact hS.2.2 q h
      · exact hFc _ (hL q h)⟩ T' rfl X'
  exact ⟨t2, stp t2 a1, b1⟩
end BASE
section BASE2
variable {p : Program} {l : Launch} {e : Env} {R : Room} {s : State} {m : MethodId} {args : Array Value} {below : List Frame} {meth : Method} {c : Code} {H : Heap} {locs : List Loc} {cells slots : Nat} {Q : State → Prop} {pc : Nat} {ls : Array Slot} {rest : List Value}
theorem lv_splitq {x : Option Nat} (kn : x = none → W p l e R s m args below meth c H locs cells slots Q (F0 m pc ls (.null :: rest))) (ks : ∀ q : Nat, x = some q → W p l e R s m args below meth c H locs cells slots Q (F0 m pc ls (.ref q :: rest))) : W p l e R s m args below meth c H locs cells slots Q (F0 m pc ls (va_rf x :: rest)) := by
  cases x with
  | none => exact kn rfl
  | some q => exact ks q rfl
theorem ts_case {x : Int32} (k : Int32) (kt : x = k → W p l e R s m args below meth c H locs cells slots Q (F0 m pc ls (.int k :: rest))) (kf : ¬ x = k → W p l e R s m args below meth c H locs cells slots Q (F0 m pc ls (.int x :: rest))) : W p l e R s m args below meth c H locs cells slots Q (F0 m pc ls (.int x :: rest)) := by
  by_cases h : x = k
  · have h1 := kt h
    rw [← h] at h1
    exact h1
  · exact kf h
end BASE2
theorem in_lt {k : Int32} {N : Nat} (h0 : ¬ k < 0) (h1 : ¬ nI N ≤ k) (hN : N < 2 ^ 31) : vp_in k N := by
  rcases pk_ix k hN with h | h | ⟨j, hj, rfl⟩
  · exact absurd h h0
  · exact absurd h h1
  · exact vp_in_nI hj hN
theorem ro_tl {D : va_G} {cl : List vw_C} {ws ws' dy : va_W} {H : Heap} (h : va_P D cl ws H) (is : List Nat) (hs : (is.filterMap (fun i => ws[i]?)) ++ dy = ws') (hd : ∀ q ∈ dy, q ∈ ws := by simp) : va_P D cl ws' H := by
  intro k q hk
  subst hs
  rcases List.mem_append.mp (List.mem_of_getElem? hk) with h1 | h1
  · obtain ⟨i, -, hi⟩ := List.mem_filterMap.mp h1
    exact h i q hi
  · obtain ⟨i, hi⟩ := List.getElem?_of_mem (hd q h1)
    exact h i q hi
theorem lt_nge {k n : Nat} (h : ¬ nI n ≤ nI k) (hk : k ≤ n) (hn : n < 2 ^ 31) : k < n := by
  rcases Nat.lt_or_ge k n with q | q
  · exact q
  · exact absurd (nI_le q (by omega)) h
theorem eq_ge {k n : Nat} (h : nI n ≤ nI k) (hk : k ≤ n) (hn : n < 2 ^ 31) : k = n := by
  rcases Nat.lt_or_ge k n with q | q
  · exact absurd h (nI_ge q hn)
  · omega
section BASE3
variable {p : Program} {l : Launch} {e : Env} {R : Room} {s : State} {m : MethodId} {args : Array Value} {below : List Frame} {meth : Method} {c : Code} {H : Heap} {locs : List Loc} {cells slots : Nat} {Q : State → Prop}
variable {cc : ByteArray} {pc : Nat} {ls : Array Slot} {rest : List Value} {D : va_G} {cl : List vw_C} {A : Nat → Prop} {a : Nat} {tys : List (ClassId × FieldType)} {ws : va_W} {H0 : Heap}
theorem ald_n (hexec : p.tables.exec = Jvm.exec) (hb : c.code = cc) (hK : va_K D cl tys s) (hP : va_P D cl ws H) (q0 t0 : Nat) {cA : ClassId} {n : Nat} {f : Nat → Int32} (ha : ws[q0]? = some (a, .inl (cA, n, .inl f))) (ht : tys[t0]? = some (cA, .int)) {k : Nat} (hk : k < n) (hn : n < 2 ^ 31) (hdg : decode cc pc = .ok (.iaload, 1))
    (kk : W p l e R s m args below meth c H locs cells slots Q (F0 m (pc + 1) ls (.int (f k) :: rest))) : W p l e R s m args below meth c H locs cells slots Q (F0 m pc ls (.int (nI k) :: .ref a :: rest)) := by
  refine va_iald hexec hb hK hP q0 t0 ha ht (vp_in_nI hk hn) hdg ?_
  rw [nI_clamp (show k < 2 ^ 31 by omega)]
  exact kk
theorem ast_n (hexec : p.tables.exec = Jvm.exec) (hb : c.code = cc) (hK : va_K D cl tys s) (hP : va_P D cl ws H) (hD : va_D A ws) (hS : va_S A H0 H locs) (q0 t0 : Nat) {cA : ClassId} {n : Nat} {f : Nat → Int32} (ha : ws[q0]? = some (a, .inl (cA, n, .inl f))) (ht : tys[t0]? = some (cA, .int)) {k : Nat} {x : Int32} (hk : k < n) (hn : n < 2 ^ 31) (hdg : decode cc pc = .ok (.iastore, 1))
    (kk : ∀ (H1 : Heap) (locs1 : List Loc), va_P D cl (ws.set q0 (a, .inl (cA, n, .inl (upd f k x)))) H1 → va_D A (ws.set q0 (a, .inl (cA, n, .inl (upd f k x)))) → va_S A H0 H1 locs1 → W p l e R s m args below meth c H1 locs1 cells slots Q (F0 m (pc + 1) ls rest)) : W p l e R s m args below meth c H locs cells slots Q (F0 m pc ls (.int x :: .int (nI k) :: .ref a :: rest)) := by
  refine va_iast hexec hb hK hP hD hS q0 t0 ha ht (vp_in_nI hk hn) hdg ?_
  rw [nI_clamp (show k < 2 ^ 31 by omega)]
  exact kk
theorem aldq_n (hexec : p.tables.exec = Jvm.exec) (hb : c.code = cc) (hK : va_K D cl tys s) (hP : va_P D cl ws H) (q0 t0 : Nat) {cA : ClassId} {C : String} {n : Nat} {f : Nat → Option Nat} (ha : ws[q0]? = some (a, .inl (cA, n, .inr (.inr (.inr (.inr f)))))) (ht : tys[t0]? = some (cA, .object C)) {k : Nat} (hk : k < n) (hn : n < 2 ^ 31) (hdg : decode cc pc = .ok (.aaload, 1))
    (kk : W p l e R s m args below meth c H locs cells slots Q (F0 m (pc + 1) ls (va_rf (f k) :: rest))) : W p l e R s m args below meth c H locs cells slots Q (F0 m pc ls (.int (nI k) :: .ref a :: rest)) := by
  refine va_aldq hexec hb hK hP q0 t0 ha ht (vp_in_nI hk hn) hdg ?_
  rw [nI_clamp (show k < 2 ^ 31 by omega)]
  exact kk
theorem topi_eq {x y : Int32} (h : x = y) (k : W p l e R s m args below meth c H locs cells slots Q (F0 m pc ls (.int y :: rest))) : W p l e R s m args below meth c H locs cells slots Q (F0 m pc ls (.int x :: rest)) := by
  rw [h]; exact k
end BASE3
theorem jn_tail {A0 : Nat → Prop} {D : va_G} {cl : List vw_C} {fx fc f1 dy : va_W} {H H1 : Heap} (hP : va_P D cl (fx ++ dy) H) (hD : va_D A0 (fx ++ dy)) (isC : List Nat) (hC : isC.map (fun i => fx[i]?) = fc.map some) (hl : isC.length = f1.length)
    (hk : ∀ q : Nat, q < H.size → ¬ va_A (fc ++ dy) H.size q → H1[q]? = H[q]?) (hP1 : va_P D cl (f1 ++ dy) H1) : va_P D cl (sA fx isC f1 ++ dy) H1 := by
  have at1 : ∀ q ∈ f1 ++ dy, va_at D cl q H1 := fun q hq => by
    obtain ⟨i, hi⟩ := List.getElem?_of_mem hq
    exact hP1 i q hi
  refine va_P.app (sA_P isC f1 fx hl (fun k q hq hn => ?_) (fun q hq => at1 q (List.mem_append_left _ hq))) (fun k q hq => at1 q (List.mem_append_right _ (List.mem_of_getElem? hq)))
  have hkl : k < fx.length := (List.getElem?_eq_some_iff.mp hq).1
  have hq' : (fx ++ dy)[k]? = some q := by rw [List.getElem?_append_left hkl]; exact hq
  have hat := hP k q hq'
  refine hat.kept (hk q.1 hat.lt (fun h => ?_))
  rcases h with ⟨j, e, h⟩ | h
  · rcases List.mem_append.mp (List.mem_of_getElem? h) with h1 | h1
    · obtain ⟨j', hj'⟩ := List.getElem?_of_mem h1
      obtain ⟨i, h2, h3⟩ := jn_at hC hj'
      have hil : i < fx.length := (List.getElem?_eq_some_iff.mp h3).1
      have := hD.1 k i q (q.1, e) hq' (by rw [List.getElem?_append_left hil]; exact h3) rfl
      subst this
      exact hn (List.mem_of_getElem? h2)
    · obtain ⟨j', hj'⟩ := List.getElem?_of_mem h1
      have := hD.1 k (fx.length + j') q (q.1, e) hq' (by rw [List.getElem?_append_right (by omega)]; rw [show fx.length + j' - fx.length = j' by omega]; exact hj') rfl
      omega
  · exact absurd hat.lt (by omega)
section BASE5
variable {p : Program} {l : Launch} {e : Env} {R : Room} {s : State} {m : MethodId} {args : Array Value} {below : List Frame} {meth : Method} {c : Code} {H : Heap} {locs : List Loc} {cells slots : Nat} {Q : State → Prop}
variable {D : va_G} {tys : List (ClassId × FieldType)} {cc bytes : ByteArray} {pc nL maxL n index : Nat} {ls : Array Slot} {rest st As : List Value} {y : MethodName} {ret : Option FieldType} {ws ws' Ts : List Cond} {rm : Room} {own C : String} {b : Nat}
theorem rf_eq {x : Option Nat} {q : Nat} (h : x = some q) (k : W p l e R s m args below meth c H locs cells slots Q (F0 m pc ls (.ref q :: rest))) : W p l e R s m args below meth c H locs cells slots Q (F0 m pc ls (va_rf x :: rest)) := by
  subst h; exact k
theorem rf_eqN {x : Option Nat} (h : x = none) (k : W p l e R s m args below meth c H locs cells slots Q (F0 m pc ls (.null :: rest))) : W p l e R s m args below meth c H locs cells slots Q (F0 m pc ls (va_rf x :: rest)) := by
  subst h; exact k
/-- the same, where the callee has the cells dy too -/
theorem mu_VT {A0 : Nat → Prop} {dy : va_W} {ro : Option Value} (fx fc f1 : va_W) (X : Cx p s m args meth c cc ret nL Ts own) (hK : va_K D vwCl tys s) {bret : Option FieldType} (hM : MU l y ws rm D tys (.ref b :: As) (fc ++ dy) H.size ro (f1 ++ dy)) (hT : GoodIn Ts (wsV own index C y ws)) (hw : ws = Cond.code y bytes maxL bret :: ws')
    (hd : y.cls = C ∧ y.cls ≠ "java/lang/invoke/MethodHandle" ∧ y.cls ≠ "java/lang/invoke/VarHandle" ∧ (parseMethodDescriptor y.desc).map (fun d => d.parameters.length) = some n) (hrm : rm.cells = 0 ∧ rm.slots = 0) (hR : rm.frames + 1 ≤ R.frames ∧ 8 + (maxL + 11) + rm.locals ≤ R.locals)
    (isC : List Nat) (hnd : va_nd isC = true) (hC : isC.map (fun i => fx[i]?) = fc.map some) (hl1 : isC.length = f1.length) (hm1 : (sA fx isC f1).map (·.1) = fx.map (·.1)) (hA : ∀ q : Nat, s.heap.size ≤ q → A0 q) (hP : va_P D vwCl (fx ++ dy) H) (hD : va_D A0 (fx ++ dy)) (hS : va_S A0 s.heap H locs)
    (hrv : ∃ cellB : Cell, H[b]? = some cellB ∧ cellB.vm.isStatics = false ∧ s.vm.findClass C = some cellB.cls) (hn : As.length = n) (hsz : ls.size = nL) (hst : st = As.reverse ++ .ref b :: rest) (hW : (rest.map fun v => v.category).sum ≤ 8) (hdg : decode cc pc = .ok (.invokevirtual index, 3)) (hf : cells ≤ R.cells ∧ slots ≤ R.slots)
    (kk : ∀ (H1 : Heap) (locs1 : List Loc), va_P D vwCl (sA fx isC f1 ++ dy) H1 → va_D A0 (sA fx isC f1 ++ dy) → va_S A0 s.heap H1 locs1 → W p l e R s m args below meth c H1 locs1 cells slots Q (F0 m (pc + 3) ls (ro.toList ++ rest))) : W p l e R s m args below meth c H locs cells slots Q (F0 m pc ls st) := by
  subst hst
  obtain ⟨hx, hb, hml, hown, hts, -, -⟩ := X
  have inj : ∀ (k : Nat) (q : Nat × va_E), (fc ++ dy)[k]? = some q → (∃ j i, k = j ∧ j < fc.length ∧ isC[j]? = some i ∧ i < fx.length ∧ (fx ++ dy)[i]? = some q) ∨ ∃ j, k = fc.length + j ∧ (fx ++ dy)[fx.length + j]? = some q := by
    intro k q hk
    by_cases hkl : k < fc.length
    · rw [List.getElem?_append_left hkl] at hk
      obtain ⟨i, h2, h3⟩ := jn_at hC hk
      have hil : i < fx.length := (List.getElem?_eq_some_iff.mp h3).1
      exact Or.inl ⟨k, i, rfl, hkl, h2, hil, by rw [List.getElem?_append_left hil]; exact h3⟩
    · rw [List.getElem?_append_right (by omega)] at hk
      exact Or.inr ⟨k - fc.length, by omega, by rw [List.getElem?_append_right (by omega), show fx.length + (k - fc.length) - fx.length = k - fc.length by omega]; exact hk⟩
  have hPc : va_P D vwCl (fc ++ dy) H := fun k q hk => by
    rcases inj k q hk with ⟨j, i, -, -, -, -, h⟩ | ⟨j, -, h⟩
    · exact hP _ q h
    · exact hP _ q h
  have hDc : va_D A0 (fc ++ dy) := by
    refine ⟨fun i j x y hi hj hxy => ?_, fun k q hk => ?_⟩
    · rcases inj i x hi with ⟨j1, i1, e1, l1, g1, l1', h1⟩ | ⟨j1, e1, h1⟩ <;> rcases inj j y hj with ⟨j2, i2, e2, l2, g2, l2', h2⟩ | ⟨j2, e2, h2⟩
      · have := hD.1 i1 i2 x y h1 h2 hxy
        subst this
        have := va_nd_inj isC hnd j1 j2 i1 g1 g2
        omega
      · have := hD.1 i1 _ x y h1 h2 hxy; omega
      · have := hD.1 _ i2 x y h1 h2 hxy; omega
      · have := hD.1 _ _ x y h1 h2 hxy; omega
    · rcases inj k q hk with ⟨j, i, -, -, -, -, h⟩ | ⟨j, -, h⟩
      · exact hD.2 _ q h
      · exact hD.2 _ q h
  have hFc : ∀ q, va_A (fc ++ dy) H.size q → A0 q := by
    intro q h
    rcases h with ⟨k, e, h⟩ | h
    · exact hDc.2 k (q, e) h
    · exact hA q (Nat.le_trans hS.1 h)
  have hr := va_runV (locs := locs) (cells := cells) (slots := slots) (e := e) (below := below) (meth := meth) (g := F0 m pc ls (As.reverse ++ .ref b :: rest)) ⟨hx, hb, hml, hown, hts⟩ hM (cwV n hts hT hw hrm.1 hrm.2 hd hR) ⟨mP_blind, hrv, fun U hU hWm => ⟨rfl, by rw [hU], by rw [hU]; exact hPc, va_K.moved hWm.alike hK, hDc.weaken (fun _ _ _ _ => trivial)⟩⟩ rfl hn hsz rfl (lv_room hW) hdg ⟨hf.1, hf.2⟩
  intro T hT' X
  obtain ⟨v, st₀, t, T', L, h0, X', hL, e1, e2, ⟨hv, hp, hz, hk⟩, stp⟩ := hr T hT' X
  cases hv
  rw [h0] at hz hk
  have hkH : ∀ q : Nat, q < H.size → ¬ va_A (fc ++ dy) H.size q → T'.heap[q]? = H[q]? := fun q h1 h2 => by rw [e1]; exact hk q h1 h2
  obtain ⟨t2, a1, b1⟩ := kk T'.heap (locs ++ L) (jn_tail hP hD isC hC hl1 hkH (by rw [e1]; exact hp)) (va_D_map (by rw [List.map_append, List.map_append, hm1]) hD)
    ⟨Nat.le_trans hS.1 (by rw [e1]; exact hz), fun q h1 h2 => by rw [hkH q (Nat.lt_of_lt_of_le h1 hS.1) (fun z => h2 (hFc q z))]; exact hS.2.1 q h1 h2, fun q hq => by
      rcases List.mem_append.mp hq with h | h
      · exact hS.2.2 q h
      · exact hFc _ (hL q h)⟩ T' rfl X'
  exact ⟨t2, stp t2 a1, b1⟩
end BASE5
end
section
/-! letters' tests and Row: what they come to -/
def isSm (c : Int32) : Bool := !decide (c < 97) && !decide (122 < c)
def isFo (c : Int32) : Bool := !decide (c < 128) && !decide (159 < c)
def isLe (c : Int32) : Bool := (!decide (c < 65) && !decide (90 < c)) || isSm c || isFo c
def rowAt (n : Int32) (N : Nat) (f : Nat → Int32) (k : Int32) : Int32 := if k < 0 then -1 else if n ≤ k then -1 else if nI N ≤ k then -1 else f k.toNatClampNeg
def putN (n : Int32) (N : Nat) : Int32 := if n < 0 then n else if nI N ≤ n then n else n + 1
def putF (f : Nat → Int32) (n : Int32) (N : Nat) (c : Int32) : Nat → Int32 := if n < 0 then f else if nI N ≤ n then f else upd f n.toNatClampNeg c
def cpF (f g : Nat → Int32) (m : Nat) : Nat → Int32 := fun k => if k < m then g k else f k
theorem cpF_0 (f g : Nat → Int32) : cpF f g 0 = f := by funext k; simp [cpF]
theorem cpF_s (f g : Nat → Int32) (m : Nat) : upd (cpF f g m) m (g m) = cpF f g (m + 1) := by
  funext k
  simp only [upd, cpF]
  by_cases h : k = m
  · subst h; simp
  · by_cases h2 : k < m
    · have : k < m + 1 := by omega
      simp [h, h2, this]
    · have : ¬ k < m + 1 := by omega
      simp [h, h2, this]
theorem putN_lt {k N : Nat} (h : k < N) (hN : N < 2 ^ 31) : putN (nI k) N = nI (k + 1) := by
  have h1 : ¬ nI k < 0 := nI_pos (by omega)
  have h2 : ¬ nI N ≤ nI k := nI_ge h hN
  simp [putN, h1, h2, nI_1]
theorem putF_lt {f : Nat → Int32} {k N : Nat} {c : Int32} (h : k < N) (hN : N < 2 ^ 31) : putF f (nI k) N c = upd f k c := by
  have h1 : ¬ nI k < 0 := nI_pos (by omega)
  have h2 : ¬ nI N ≤ nI k := nI_ge h hN
  simp [putF, h1, h2, nI_clamp (show k < 2 ^ 31 by omega)]
theorem rowAt_lt {n N k : Nat} {f : Nat → Int32} (h : k < n) (hN : k < N) (hn : n < 2 ^ 31) (hN2 : N < 2 ^ 31) : rowAt (nI n) N f (nI k) = f k := by
  have h1 : ¬ nI k < 0 := nI_pos (by omega)
  have h2 : ¬ nI N ≤ nI k := nI_ge hN hN2
  have h3 : ¬ nI n ≤ nI k := nI_ge h hn
  simp [rowAt, h1, h2, h3, nI_clamp (show k < 2 ^ 31 by omega)]

set_option maxHeartbeats 1000000 in
set_option maxRecDepth 100000 in
theorem c_X3_isSmall {l : Launch} {D : va_G} {cI cJ cW : ClassId} {c : Int32}  : RO l yX3_isSmall wsX3_isSmall { frames := 0, cells := 0, slots := 0, locals := 0 } D (ty3 cI cJ cW) [.int c] [] (.int (bI (isSm c))) := by
  refine ro_of (cc := cX3_isSmall) (maxL := 1) (ret := (some .boolean)) (by decide) rfl (Nat.le_of_ble_eq_true rfl) ?_
  intro pr en ss mi below meth cd X hP hK ls hl
  obtain ⟨hx, hb, hml, hown, hts, hr, hlocks⟩ := id X
  have hl : lv_has ls 1 [(0, .int c)] := hl
  refine lv_iload_n hx hb dX3_isSmall_0 rfl (lv_at hl 0 rfl) ?_
  refine lv_bipush (v := 97) hx hb dX3_isSmall_1 (by decide) ?_
  refine lv_icmp_lt (tgt := 16) hx hb dX3_isSmall_3 (by decide) (fun c_3 => ?_) (fun c_3 => ?_)
  · refine lv_iconst (v := 0) hx hb dX3_isSmall_16 (by decide) ?_
    exact ro_zret X (by simp [isSm, bI, c_3]) dX3_isSmall_17
  · refine lv_iload_n hx hb dX3_isSmall_6 rfl (lv_at hl 0 rfl) ?_
    refine lv_bipush (v := 122) hx hb dX3_isSmall_7 (by decide) ?_
    refine lv_icmp_gt (tgt := 16) hx hb dX3_isSmall_9 (by decide) (fun c_9 => ?_) (fun c_9 => ?_)
    · refine lv_iconst (v := 0) hx hb dX3_isSmall_16 (by decide) ?_
      exact ro_zret X (by simp [isSm, bI, c_3, c_9]) dX3_isSmall_17
    · refine lv_iconst (v := 1) hx hb dX3_isSmall_12 (by decide) ?_
      refine lv_goto (tgt := 17) hx hb dX3_isSmall_13 (by decide) ?_
      exact ro_zret X (by simp [isSm, bI, c_3, c_9]) dX3_isSmall_17

set_option maxHeartbeats 1000000 in
set_option maxRecDepth 100000 in
theorem c_X3_isFoldable {l : Launch} {D : va_G} {cI cJ cW : ClassId} {c : Int32}  : RO l yX3_isFoldable wsX3_isFoldable { frames := 0, cells := 0, slots := 0, locals := 0 } D (ty3 cI cJ cW) [.int c] [] (.int (bI (isFo c))) := by
  refine ro_of (cc := cX3_isFoldable) (maxL := 1) (ret := (some .boolean)) (by decide) rfl (Nat.le_of_ble_eq_true rfl) ?_
  intro pr en ss mi below meth cd X hP hK ls hl
  obtain ⟨hx, hb, hml, hown, hts, hr, hlocks⟩ := id X
  have hl : lv_has ls 1 [(0, .int c)] := hl
  refine lv_iload_n hx hb dX3_isFoldable_0 rfl (lv_at hl 0 rfl) ?_
  refine lv_sipush (v := 128) hx hb dX3_isFoldable_1 (by decide) ?_
  refine lv_icmp_lt (tgt := 18) hx hb dX3_isFoldable_4 (by decide) (fun c_4 => ?_) (fun c_4 => ?_)
  · refine lv_iconst (v := 0) hx hb dX3_isFoldable_18 (by decide) ?_
    exact ro_zret X (by simp [isFo, bI, c_4]) dX3_isFoldable_19
  · refine lv_iload_n hx hb dX3_isFoldable_7 rfl (lv_at hl 0 rfl) ?_
    refine lv_sipush (v := 159) hx hb dX3_isFoldable_8 (by decide) ?_
    refine lv_icmp_gt (tgt := 18) hx hb dX3_isFoldable_11 (by decide) (fun c_11 => ?_) (fun c_11 => ?_)
    · refine lv_iconst (v := 0) hx hb dX3_isFoldable_18 (by decide) ?_
      exact ro_zret X (by simp [isFo, bI, c_4, c_11]) dX3_isFoldable_19
    · refine lv_iconst (v := 1) hx hb dX3_isFoldable_14 (by decide) ?_
      refine lv_goto (tgt := 19) hx hb dX3_isFoldable_15 (by decide) ?_
      exact ro_zret X (by simp [isFo, bI, c_4, c_11]) dX3_isFoldable_19

set_option maxHeartbeats 1000000 in
set_option maxRecDepth 100000 in
theorem c_X3_isLetter {l : Launch} {D : va_G} {cI cJ cW : ClassId} {c : Int32}  : RO l yX3_isLetter wsX3_isLetter { frames := 1, cells := 0, slots := 0, locals := 20 } D (ty3 cI cJ cW) [.int c] [] (.int (bI (isLe c))) := by
  refine ro_of (cc := cX3_isLetter) (maxL := 1) (ret := (some .boolean)) (by decide) rfl (Nat.le_of_ble_eq_true rfl) ?_
  intro pr en ss mi below meth cd X hP hK ls hl
  obtain ⟨hx, hb, hml, hown, hts, hr, hlocks⟩ := id X
  have hl : lv_has ls 1 [(0, .int c)] := hl
  refine lv_iload_n hx hb dX3_isLetter_0 rfl (lv_at hl 0 rfl) ?_
  refine lv_bipush (v := 65) hx hb dX3_isLetter_1 (by decide) ?_
  refine lv_icmp_lt (tgt := 12) hx hb dX3_isLetter_3 (by decide) (fun c_3 => ?_) (fun c_3 => ?_)
  · refine lv_iload_n hx hb dX3_isLetter_12 rfl (lv_at hl 0 rfl) ?_
    refine ro_S (n := 1) X hK (c_X3_isSmall) gX3_isLetter_X3_isSmall rfl (by decide +kernel) ⟨rfl, rfl⟩ ⟨Nat.le_of_ble_eq_true rfl, Nat.le_of_ble_eq_true rfl⟩ (hP.sub [] rfl) rfl hl.1 rfl (Nat.le_of_ble_eq_true rfl) dX3_isLetter_13 ⟨Nat.zero_le _, Nat.zero_le _⟩ ?_
    refine lv_if_ne (tgt := 26) hx hb dX3_isLetter_16 (by decide) (fun c_16 => ?_) (fun c_16 => ?_)
    · replace c_16 := bI_n0.mp c_16
      refine lv_iconst (v := 1) hx hb dX3_isLetter_26 (by decide) ?_
      refine lv_goto (tgt := 31) hx hb dX3_isLetter_27 (by decide) ?_
      exact ro_zret X (by simp [isLe, bI, c_3, c_16]) dX3_isLetter_31
    · replace c_16 := bI_0.mp c_16
      refine lv_iload_n hx hb dX3_isLetter_19 rfl (lv_at hl 0 rfl) ?_
      refine ro_S (n := 1) X hK (c_X3_isFoldable) gX3_isLetter_X3_isFoldable rfl (by decide +kernel) ⟨rfl, rfl⟩ ⟨Nat.le_of_ble_eq_true rfl, Nat.le_of_ble_eq_true rfl⟩ (hP.sub [] rfl) rfl hl.1 rfl (Nat.le_of_ble_eq_true rfl) dX3_isLetter_20 ⟨Nat.zero_le _, Nat.zero_le _⟩ ?_
      refine lv_if_eq (tgt := 30) hx hb dX3_isLetter_23 (by decide) (fun c_23 => ?_) (fun c_23 => ?_)
      · replace c_23 := bI_0.mp c_23
        refine lv_iconst (v := 0) hx hb dX3_isLetter_30 (by decide) ?_
        exact ro_zret X (by simp [isLe, bI, c_3, c_16, c_23]) dX3_isLetter_31
      · replace c_23 := bI_n0.mp c_23
        refine lv_iconst (v := 1) hx hb dX3_isLetter_26 (by decide) ?_
        refine lv_goto (tgt := 31) hx hb dX3_isLetter_27 (by decide) ?_
        exact ro_zret X (by simp [isLe, bI, c_3, c_16, c_23]) dX3_isLetter_31
  · refine lv_iload_n hx hb dX3_isLetter_6 rfl (lv_at hl 0 rfl) ?_
    refine lv_bipush (v := 90) hx hb dX3_isLetter_7 (by decide) ?_
    refine lv_icmp_le (tgt := 26) hx hb dX3_isLetter_9 (by decide) (fun c_9 => ?_) (fun c_9 => ?_)
    · refine lv_iconst (v := 1) hx hb dX3_isLetter_26 (by decide) ?_
      refine lv_goto (tgt := 31) hx hb dX3_isLetter_27 (by decide) ?_
      exact ro_zret X (by simp [isLe, bI, c_3, c_9]) dX3_isLetter_31
    · refine lv_iload_n hx hb dX3_isLetter_12 rfl (lv_at hl 0 rfl) ?_
      refine ro_S (n := 1) X hK (c_X3_isSmall) gX3_isLetter_X3_isSmall rfl (by decide +kernel) ⟨rfl, rfl⟩ ⟨Nat.le_of_ble_eq_true rfl, Nat.le_of_ble_eq_true rfl⟩ (hP.sub [] rfl) rfl hl.1 rfl (Nat.le_of_ble_eq_true rfl) dX3_isLetter_13 ⟨Nat.zero_le _, Nat.zero_le _⟩ ?_
      refine lv_if_ne (tgt := 26) hx hb dX3_isLetter_16 (by decide) (fun c_16 => ?_) (fun c_16 => ?_)
      · replace c_16 := bI_n0.mp c_16
        refine lv_iconst (v := 1) hx hb dX3_isLetter_26 (by decide) ?_
        refine lv_goto (tgt := 31) hx hb dX3_isLetter_27 (by decide) ?_
        exact ro_zret X (by simp [isLe, bI, c_3, c_9, c_16]) dX3_isLetter_31
      · replace c_16 := bI_0.mp c_16
        refine lv_iload_n hx hb dX3_isLetter_19 rfl (lv_at hl 0 rfl) ?_
        refine ro_S (n := 1) X hK (c_X3_isFoldable) gX3_isLetter_X3_isFoldable rfl (by decide +kernel) ⟨rfl, rfl⟩ ⟨Nat.le_of_ble_eq_true rfl, Nat.le_of_ble_eq_true rfl⟩ (hP.sub [] rfl) rfl hl.1 rfl (Nat.le_of_ble_eq_true rfl) dX3_isLetter_20 ⟨Nat.zero_le _, Nat.zero_le _⟩ ?_
        refine lv_if_eq (tgt := 30) hx hb dX3_isLetter_23 (by decide) (fun c_23 => ?_) (fun c_23 => ?_)
        · replace c_23 := bI_0.mp c_23
          refine lv_iconst (v := 0) hx hb dX3_isLetter_30 (by decide) ?_
          exact ro_zret X (by simp [isLe, bI, c_3, c_9, c_16, c_23]) dX3_isLetter_31
        · replace c_23 := bI_n0.mp c_23
          refine lv_iconst (v := 1) hx hb dX3_isLetter_26 (by decide) ?_
          refine lv_goto (tgt := 31) hx hb dX3_isLetter_27 (by decide) ?_
          exact ro_zret X (by simp [isLe, bI, c_3, c_9, c_16, c_23]) dX3_isLetter_31

set_option maxHeartbeats 1000000 in
set_option maxRecDepth 100000 in
theorem c_X4_isFull {l : Launch} {D : va_G} {cI cJ cW : ClassId} {h b : Nat} {n : Int32} {N : Nat} {f : Nat → Int32}  : RO l yX4_isFull wsX4_isFull { frames := 0, cells := 0, slots := 0, locals := 0 } D (ty3 cI cJ cW) [.ref h] [(h, .inr (4, [.ref b, .int n])), (b, .inl (cI, N, .inl f))] (.int (bI (decide (nI N ≤ n)))) := by
  refine ro_of (cc := cX4_isFull) (maxL := 1) (ret := (some .boolean)) (by decide) rfl (Nat.le_of_ble_eq_true rfl) ?_
  intro pr en ss mi below meth cd X hP hK ls hl
  obtain ⟨hx, hb, hml, hown, hts, hr, hlocks⟩ := id X
  have fl_15 := hts (.fieldLink RX4 15 "WordTables$Row" "bytes" "[I") (by decide +kernel)
  have fl_21 := hts (.fieldLink RX4 21 "WordTables$Row" "count" "I") (by decide +kernel)
  have in_X4 : ∀ w ∈ wsX40, w ∈ wsX4_isFull := by decide +kernel
  have hl : lv_has ls 1 [(0, .ref h)] := hl
  refine lv_aload_n hx hb dX4_isFull_0 rfl (lv_at hl 0 rfl) ?_
  refine va_get (D := D) (ci := 4) (C := RX4) (T := TX4) (N := 2) hx hb hts in_X4 hown hK hP 0 rfl rfl 1 (by decide) fl_21 (fun _ h9 => h9) rfl dX4_isFull_1 ?_
  refine lv_aload_n hx hb dX4_isFull_4 rfl (lv_at hl 0 rfl) ?_
  refine va_get (D := D) (ci := 4) (C := RX4) (T := TX4) (N := 2) hx hb hts in_X4 hown hK hP 0 rfl rfl 0 (by decide) fl_15 (fun _ h9 => h9) rfl dX4_isFull_5 ?_
  refine va_alen (v := nI N) hx hb hK hP 1 0 rfl rfl rfl dX4_isFull_8 ?_
  refine lv_icmp_lt (tgt := 16) hx hb dX4_isFull_9 (by decide) (fun c_9 => ?_) (fun c_9 => ?_)
  · refine lv_iconst (v := 0) hx hb dX4_isFull_16 (by decide) ?_
    exact ro_zret X (by simp [bI, c_9]) dX4_isFull_17
  · refine lv_iconst (v := 1) hx hb dX4_isFull_12 (by decide) ?_
    refine lv_goto (tgt := 17) hx hb dX4_isFull_13 (by decide) ?_
    exact ro_zret X (by simp [bI, c_9]) dX4_isFull_17

set_option maxHeartbeats 1000000 in
set_option maxRecDepth 100000 in
theorem c_X4_byteAt {l : Launch} {D : va_G} {cI cJ cW : ClassId} {h b : Nat} {n : Int32} {N : Nat} {f : Nat → Int32} {k : Int32} (hN : N < 2 ^ 31) : RO l yX4_byteAt wsX4_byteAt { frames := 0, cells := 0, slots := 0, locals := 0 } D (ty3 cI cJ cW) [.ref h, .int k] [(h, .inr (4, [.ref b, .int n])), (b, .inl (cI, N, .inl f))] (.int (rowAt n N f k)) := by
  refine ro_of (cc := cX4_byteAt) (maxL := 2) (ret := (some .int)) (by decide) rfl (Nat.le_of_ble_eq_true rfl) ?_
  intro pr en ss mi below meth cd X hP hK ls hl
  obtain ⟨hx, hb, hml, hown, hts, hr, hlocks⟩ := id X
  have fl_15 := hts (.fieldLink RX4 15 "WordTables$Row" "bytes" "[I") (by decide +kernel)
  have fl_21 := hts (.fieldLink RX4 21 "WordTables$Row" "count" "I") (by decide +kernel)
  have in_X4 : ∀ w ∈ wsX40, w ∈ wsX4_byteAt := by decide +kernel
  have hl : lv_has ls 2 [(0, .ref h), (1, .int k)] := hl
  refine lv_iload_n hx hb dX4_byteAt_0 rfl (lv_at hl 1 rfl) ?_
  refine lv_if_lt (tgt := 30) hx hb dX4_byteAt_1 (by decide) (fun c_1 => ?_) (fun c_1 => ?_)
  · refine lv_iconst (v := -1) hx hb dX4_byteAt_30 (by decide) ?_
    exact ro_iret X (by simp [rowAt, c_1]) dX4_byteAt_31
  · refine lv_iload_n hx hb dX4_byteAt_4 rfl (lv_at hl 1 rfl) ?_
    refine lv_aload_n hx hb dX4_byteAt_5 rfl (lv_at hl 0 rfl) ?_
    refine va_get (D := D) (ci := 4) (C := RX4) (T := TX4) (N := 2) hx hb hts in_X4 hown hK hP 0 rfl rfl 1 (by decide) fl_21 (fun _ h9 => h9) rfl dX4_byteAt_6 ?_
    refine lv_icmp_ge (tgt := 30) hx hb dX4_byteAt_9 (by decide) (fun c_9 => ?_) (fun c_9 => ?_)
    · refine lv_iconst (v := -1) hx hb dX4_byteAt_30 (by decide) ?_
      exact ro_iret X (by simp [rowAt, c_1, c_9]) dX4_byteAt_31
    · refine lv_iload_n hx hb dX4_byteAt_12 rfl (lv_at hl 1 rfl) ?_
      refine lv_aload_n hx hb dX4_byteAt_13 rfl (lv_at hl 0 rfl) ?_
      refine va_get (D := D) (ci := 4) (C := RX4) (T := TX4) (N := 2) hx hb hts in_X4 hown hK hP 0 rfl rfl 0 (by decide) fl_15 (fun _ h9 => h9) rfl dX4_byteAt_14 ?_
      refine va_alen (v := nI N) hx hb hK hP 1 0 rfl rfl rfl dX4_byteAt_17 ?_
      refine lv_icmp_ge (tgt := 30) hx hb dX4_byteAt_18 (by decide) (fun c_18 => ?_) (fun c_18 => ?_)
      · refine lv_iconst (v := -1) hx hb dX4_byteAt_30 (by decide) ?_
        exact ro_iret X (by simp [rowAt, c_1, c_9, c_18]) dX4_byteAt_31
      · refine lv_aload_n hx hb dX4_byteAt_21 rfl (lv_at hl 0 rfl) ?_
        refine va_get (D := D) (ci := 4) (C := RX4) (T := TX4) (N := 2) hx hb hts in_X4 hown hK hP 0 rfl rfl 0 (by decide) fl_15 (fun _ h9 => h9) rfl dX4_byteAt_22 ?_
        refine lv_iload_n hx hb dX4_byteAt_25 rfl (lv_at hl 1 rfl) ?_
        refine va_iald hx hb hK hP 1 0 rfl rfl (in_lt (by assumption) (by assumption) hN) dX4_byteAt_26 ?_
        refine lv_goto (tgt := 31) hx hb dX4_byteAt_27 (by decide) ?_
        exact ro_iret X (by simp [rowAt, c_1, c_9, c_18]) dX4_byteAt_31

set_option maxHeartbeats 1000000 in
set_option maxRecDepth 100000 in
theorem c_X4_put {l : Launch} {D : va_G} {cI cJ cW : ClassId} {sz : Nat} {h b : Nat} {n : Int32} {N : Nat} {f : Nat → Int32} {k : Int32} (hN : N < 2 ^ 31) : MU l yX4_put wsX4_put { frames := 0, cells := 0, slots := 0, locals := 0 } D (ty3 cI cJ cW) [.ref h, .int k] [(h, .inr (4, [.ref b, .int n])), (b, .inl (cI, N, .inl f))] sz none [(h, .inr (4, [.ref b, .int (putN n N)])), (b, .inl (cI, N, .inl (putF f n N k)))] := by
  refine mu_of (cc := cX4_put) (maxL := 2) (ret := none) (by decide) rfl (Nat.le_of_ble_eq_true rfl) ?_
  intro pr en ss mi below meth cd X hK A hA hP hD hS ls hl
  obtain ⟨hx, hb, hml, hown, hts, hr, hlocks⟩ := id X
  have fl_15 := hts (.fieldLink RX4 15 "WordTables$Row" "bytes" "[I") (by decide +kernel)
  have fl_21 := hts (.fieldLink RX4 21 "WordTables$Row" "count" "I") (by decide +kernel)
  have in_X4 : ∀ w ∈ wsX40, w ∈ wsX4_put := by decide +kernel
  have hl : lv_has ls 2 [(0, .ref h), (1, .int k)] := hl
  refine lv_aload_n hx hb dX4_put_0 rfl (lv_at hl 0 rfl) ?_
  refine va_get (D := D) (ci := 4) (C := RX4) (T := TX4) (N := 2) hx hb hts in_X4 hown hK hP 0 rfl rfl 1 (by decide) fl_21 (fun _ h9 => h9) rfl dX4_put_1 ?_
  refine lv_if_lt (tgt := 39) hx hb dX4_put_4 (by decide) (fun c_4 => ?_) (fun c_4 => ?_)
  · exact mu_vret X hP hS (by simp [putN, putF, c_4]) dX4_put_39
  · refine lv_aload_n hx hb dX4_put_7 rfl (lv_at hl 0 rfl) ?_
    refine va_get (D := D) (ci := 4) (C := RX4) (T := TX4) (N := 2) hx hb hts in_X4 hown hK hP 0 rfl rfl 1 (by decide) fl_21 (fun _ h9 => h9) rfl dX4_put_8 ?_
    refine lv_aload_n hx hb dX4_put_11 rfl (lv_at hl 0 rfl) ?_
    refine va_get (D := D) (ci := 4) (C := RX4) (T := TX4) (N := 2) hx hb hts in_X4 hown hK hP 0 rfl rfl 0 (by decide) fl_15 (fun _ h9 => h9) rfl dX4_put_12 ?_
    refine va_alen (v := nI N) hx hb hK hP 1 0 rfl rfl rfl dX4_put_15 ?_
    refine lv_icmp_ge (tgt := 39) hx hb dX4_put_16 (by decide) (fun c_16 => ?_) (fun c_16 => ?_)
    · exact mu_vret X hP hS (by simp [putN, putF, c_4, c_16]) dX4_put_39
    · refine lv_aload_n hx hb dX4_put_19 rfl (lv_at hl 0 rfl) ?_
      refine va_get (D := D) (ci := 4) (C := RX4) (T := TX4) (N := 2) hx hb hts in_X4 hown hK hP 0 rfl rfl 0 (by decide) fl_15 (fun _ h9 => h9) rfl dX4_put_20 ?_
      refine lv_aload_n hx hb dX4_put_23 rfl (lv_at hl 0 rfl) ?_
      refine va_get (D := D) (ci := 4) (C := RX4) (T := TX4) (N := 2) hx hb hts in_X4 hown hK hP 0 rfl rfl 1 (by decide) fl_21 (fun _ h9 => h9) rfl dX4_put_24 ?_
      refine lv_iload_n hx hb dX4_put_27 rfl (lv_at hl 1 rfl) ?_
      refine va_iast hx hb hK hP hD hS 1 0 rfl rfl (in_lt (by assumption) (by assumption) hN) dX4_put_28 (fun H locs hP hD hS => ?_)
      have hP : va_P D vwCl [(h, .inr (4, [.ref b, _])), (b, .inl (cI, N, .inl _))] H := hP
      have hD : va_D A [(h, .inr (4, [.ref b, _])), (b, .inl (cI, N, .inl _))] := hD
      refine lv_aload_n hx hb dX4_put_29 rfl (lv_at hl 0 rfl) ?_
      refine lv_dup hx hb dX4_put_30 rfl ?_
      refine va_get (D := D) (ci := 4) (C := RX4) (T := TX4) (N := 2) hx hb hts in_X4 hown hK hP 0 rfl rfl 1 (by decide) fl_21 (fun _ h9 => h9) rfl dX4_put_31 ?_
      refine lv_iconst (v := 1) hx hb dX4_put_34 (by decide) ?_
      refine lv_iadd hx hb dX4_put_35 ?_
      refine va_put (D := D) (ci := 4) (ty := .int) (C := RX4) (T := TX4) (N := 2) hx hb hts in_X4 tyX4 tyX4_ok nmX4 hown hK hP hD hS 0 rfl rfl 1 (by decide) fl_21 (fun _ h9 => h9) rfl (by decide +kernel) rfl rfl (Nat.le_of_ble_eq_true rfl) dX4_put_36 (fun H locs hP hD hS => ?_)
      have hP : va_P D vwCl [(h, .inr (4, [.ref b, _])), (b, .inl (cI, N, .inl _))] H := hP
      have hD : va_D A [(h, .inr (4, [.ref b, _])), (b, .inl (cI, N, .inl _))] := hD
      exact mu_vret X hP hS (by simp [putN, putF, c_4, c_16]) dX4_put_39

set_option maxHeartbeats 1000000 in
set_option maxRecDepth 100000 in
theorem c_X4_clear {l : Launch} {D : va_G} {cI cJ cW : ClassId} {sz : Nat} {h b : Nat} {n : Int32} {N : Nat} {f : Nat → Int32}  : MU l yX4_clear wsX4_clear { frames := 0, cells := 0, slots := 0, locals := 0 } D (ty3 cI cJ cW) [.ref h] [(h, .inr (4, [.ref b, .int n])), (b, .inl (cI, N, .inl f))] sz none [(h, .inr (4, [.ref b, .int 0])), (b, .inl (cI, N, .inl f))] := by
  refine mu_of (cc := cX4_clear) (maxL := 1) (ret := none) (by decide) rfl (Nat.le_of_ble_eq_true rfl) ?_
  intro pr en ss mi below meth cd X hK A hA hP hD hS ls hl
  obtain ⟨hx, hb, hml, hown, hts, hr, hlocks⟩ := id X
  have fl_21 := hts (.fieldLink RX4 21 "WordTables$Row" "count" "I") (by decide +kernel)
  have in_X4 : ∀ w ∈ wsX40, w ∈ wsX4_clear := by decide +kernel
  have hl : lv_has ls 1 [(0, .ref h)] := hl
  refine lv_aload_n hx hb dX4_clear_0 rfl (lv_at hl 0 rfl) ?_
  refine lv_iconst (v := 0) hx hb dX4_clear_1 (by decide) ?_
  refine va_put (D := D) (ci := 4) (ty := .int) (C := RX4) (T := TX4) (N := 2) hx hb hts in_X4 tyX4 tyX4_ok nmX4 hown hK hP hD hS 0 rfl rfl 1 (by decide) fl_21 (fun _ h9 => h9) rfl (by decide +kernel) rfl rfl (Nat.le_of_ble_eq_true rfl) dX4_clear_2 (fun H locs hP hD hS => ?_)
  have hP : va_P D vwCl [(h, .inr (4, [.ref b, _])), (b, .inl (cI, N, .inl _))] H := hP
  have hD : va_D A [(h, .inr (4, [.ref b, _])), (b, .inl (cI, N, .inl _))] := hD
  exact mu_vret X hP hS (rfl) dX4_clear_5

set_option maxHeartbeats 1000000 in
set_option maxRecDepth 100000 in
theorem c_X4_copyFrom {l : Launch} {D : va_G} {cI cJ cW : ClassId} {sz : Nat} {h b : Nat} {n : Int32} {N : Nat} {f : Nat → Int32} {o ob mm oN : Nat} {g : Nat → Int32} (hN : N < 2 ^ 31) (hoN : oN < 2 ^ 31) (hm1 : mm ≤ N) (hm2 : mm ≤ oN) : MU l yX4_copyFrom wsX4_copyFrom { frames := 1, cells := 0, slots := 0, locals := 21 } D (ty3 cI cJ cW) [.ref h, .ref o] [(h, .inr (4, [.ref b, .int n])), (b, .inl (cI, N, .inl f)), (o, .inr (4, [.ref ob, .int (nI mm)])), (ob, .inl (cI, oN, .inl g))] sz none [(h, .inr (4, [.ref b, .int (nI mm)])), (b, .inl (cI, N, .inl (cpF f g mm))), (o, .inr (4, [.ref ob, .int (nI mm)])), (ob, .inl (cI, oN, .inl g))] := by
  refine mu_of (cc := cX4_copyFrom) (maxL := 3) (ret := none) (by decide) rfl (Nat.le_of_ble_eq_true rfl) ?_
  intro pr en ss mi below meth cd X hK A hA hP hD hS ls hl
  obtain ⟨hx, hb, hml, hown, hts, hr, hlocks⟩ := id X
  have fl_21 := hts (.fieldLink RX4 21 "WordTables$Row" "count" "I") (by decide +kernel)
  have in_X4 : ∀ w ∈ wsX40, w ∈ wsX4_copyFrom := by decide +kernel
  have hl : lv_has ls 3 [(0, .ref h), (1, .ref o)] := hl
  refine lv_aload_n hx hb dX4_copyFrom_0 rfl (lv_at hl 0 rfl) ?_
  refine mu_V (n := 0) X hK (c_X4_clear) gX4_copyFrom_X4_clear rfl (by decide +kernel) ⟨rfl, rfl⟩ ⟨Nat.le_of_ble_eq_true rfl, Nat.le_of_ble_eq_true rfl⟩ [0, 1] rfl rfl rfl rfl hA hP hD hS (va_recv hK hP (ci := 4) (q0 := 0) rfl rfl) rfl hl.1 rfl (Nat.le_of_ble_eq_true rfl) dX4_copyFrom_1 ⟨Nat.zero_le _, Nat.zero_le _⟩ (fun H locs hP hD hS => ?_)
  have hP : va_P D vwCl [(h, .inr (4, [.ref b, _])), (b, .inl (cI, N, .inl _)), (o, .inr (4, [.ref ob, _])), (ob, .inl (cI, oN, .inl _))] H := hP
  have hD : va_D A [(h, .inr (4, [.ref b, _])), (b, .inl (cI, N, .inl _)), (o, .inr (4, [.ref ob, _])), (ob, .inl (cI, oN, .inl _))] := hD
  refine lv_iconst (v := 0) hx hb dX4_copyFrom_4 (by decide) ?_
  refine lv_istore_n (lv' := [(2, _), (0, _), (1, _)]) hx hb dX4_copyFrom_5 rfl hl (by decide) rfl (fun ls hl => ?_)
  have loop_6 : ∀ (fuel : Nat) (k : Nat), mm - k < fuel → k ≤ mm → ∀ (H : Heap) (locs : List Loc), va_P D vwCl [(h, .inr (4, [.ref b, .int (nI k)])), (b, .inl (cI, N, .inl (cpF f g k))), (o, .inr (4, [.ref ob, .int (nI mm)])), (ob, .inl (cI, oN, .inl g))] H → va_D A [(h, .inr (4, [.ref b, .int (nI k)])), (b, .inl (cI, N, .inl (cpF f g k))), (o, .inr (4, [.ref ob, .int (nI mm)])), (ob, .inl (cI, oN, .inl g))] → va_S A ss.heap H locs → ∀ ls : Array Slot, lv_has ls 3 [(0, .ref h), (1, .ref o), (2, .int (nI k))] → W pr l en { frames := 1, cells := 0, slots := 0, locals := 21 } ss mi ([.ref h, .ref o] : List Value).toArray below meth cd H locs 0 0 (MQ below (mQ none D [(h, .inr (4, [.ref b, .int (nI mm)])), (b, .inl (cI, N, .inl (cpF f g mm))), (o, .inr (4, [.ref ob, .int (nI mm)])), (ob, .inl (cI, oN, .inl g))] A) ([.ref h, .ref o] : List Value).toArray ss 0 0 A) (F0 mi 6 ls []) := by
    intro fuel
    induction fuel with
    | zero => intro k hm; exact absurd hm (Nat.not_lt_zero _)
    | succ fuel ih =>
      intro k hm hk H locs hP hD hS ls hl
      refine lv_iload_n hx hb dX4_copyFrom_6 rfl (lv_at hl 2 rfl) ?_
      refine lv_aload_n hx hb dX4_copyFrom_7 rfl (lv_at hl 1 rfl) ?_
      refine va_get (D := D) (ci := 4) (C := RX4) (T := TX4) (N := 2) hx hb hts in_X4 hown hK hP 2 rfl rfl 1 (by decide) fl_21 (fun _ h9 => h9) rfl dX4_copyFrom_8 ?_
      refine lv_icmp_ge (tgt := 29) hx hb dX4_copyFrom_11 (by decide) (fun c_11 => ?_) (fun c_11 => ?_)
      · have hkm : k = mm := eq_ge c_11 hk (by omega)
        subst hkm
        exact mu_vret X hP hS (rfl) dX4_copyFrom_29
      · have hlt : k < mm := lt_nge c_11 hk (by omega)
        refine lv_aload_n hx hb dX4_copyFrom_14 rfl (lv_at hl 0 rfl) ?_
        refine lv_aload_n hx hb dX4_copyFrom_15 rfl (lv_at hl 1 rfl) ?_
        refine lv_iload_n hx hb dX4_copyFrom_16 rfl (lv_at hl 2 rfl) ?_
        refine ro_V (n := 1) X hK (c_X4_byteAt hoN) gX4_copyFrom_X4_byteAt rfl (by decide +kernel) ⟨rfl, rfl⟩ ⟨Nat.le_of_ble_eq_true rfl, Nat.le_of_ble_eq_true rfl⟩ (hP.sub [2, 3] rfl) (va_recv hK hP (ci := 4) (q0 := 2) rfl rfl) rfl hl.1 rfl (Nat.le_of_ble_eq_true rfl) dX4_copyFrom_17 ⟨Nat.zero_le _, Nat.zero_le _⟩ ?_
        refine mu_V (n := 1) X hK (c_X4_put hN) gX4_copyFrom_X4_put rfl (by decide +kernel) ⟨rfl, rfl⟩ ⟨Nat.le_of_ble_eq_true rfl, Nat.le_of_ble_eq_true rfl⟩ [0, 1] rfl rfl rfl rfl hA hP hD hS (va_recv hK hP (ci := 4) (q0 := 0) rfl rfl) rfl hl.1 rfl (Nat.le_of_ble_eq_true rfl) dX4_copyFrom_20 ⟨Nat.zero_le _, Nat.zero_le _⟩ (fun H locs hP hD hS => ?_)
        have hP : va_P D vwCl [(h, .inr (4, [.ref b, _])), (b, .inl (cI, N, .inl _)), (o, .inr (4, [.ref ob, _])), (ob, .inl (cI, oN, .inl _))] H := hP
        have hD : va_D A [(h, .inr (4, [.ref b, _])), (b, .inl (cI, N, .inl _)), (o, .inr (4, [.ref ob, _])), (ob, .inl (cI, oN, .inl _))] := hD
        refine lv_iinc (v := (_ : Int32) + 1) (lv' := [(2, _), (0, _), (1, _)]) hx hb dX4_copyFrom_23 hl (k := 2) rfl rfl (by decide) rfl (fun ls hl => ?_)
        refine lv_goto (tgt := 6) hx hb dX4_copyFrom_26 (by decide) ?_
        rw [nI_1] at hl
        rw [rowAt_lt hlt (by omega) (by omega) hoN, putN_lt (by omega) hN, putF_lt (by omega) hN, cpF_s] at hP hD
        exact ih (k + 1) (by omega) (by omega) _ _ hP hD hS _ (lv_sub hl [1, 2, 0] rfl)
  rw [show (0 : Int32) = nI 0 from rfl] at hl hP hD
  rw [← cpF_0 f g] at hP hD
  exact loop_6 (mm + 1) 0 (by omega) (Nat.zero_le _) _ _ hP hD hS ls (lv_sub hl [1, 2, 0] rfl)
end
section
/-! Letters, Word, Things, Tokens, Sum, Common: what their methods come to -/
def foB (c : Int32) : Int32 := if c < 65 then c else if 90 < c then c else c - 65 + 97
def foC (fo : Nat → Int32) (c : Int32) : Int32 := if c - 128 < 0 then foB c else if nI 32 ≤ c - 128 then foB c else fo (c - 128).toNatClampNeg
def chF (fo : Nat → Int32) (a b : Int32) : Nat → Int32 := if a - 128 < 0 then fo else if nI 32 ≤ a - 128 then fo else upd fo (a - 128).toNatClampNeg b
def likeB (ct : Nat) (fo : Int32 → Int32) (p : Nat → Int32) (np : Nat) (q : Nat → Int32) (nq : Nat) : Bool := decide (min np ct = min nq ct) && (List.range (min np ct)).all (fun k => decide (fo (p k) = fo (q k)))
theorem likeB_t {ct np nq : Nat} {fo : Int32 → Int32} {p q : Nat → Int32} (h : min np ct = min nq ct) (ha : ∀ i, i < min np ct → fo (p i) = fo (q i)) : likeB ct fo p np q nq = true := by
  simp only [likeB, Bool.and_eq_true, decide_eq_true_eq, List.all_eq_true, List.mem_range]
  exact ⟨h, ha⟩
theorem likeB_f1 {ct np nq : Nat} {fo : Int32 → Int32} {p q : Nat → Int32} (h : ¬ min np ct = min nq ct) : likeB ct fo p np q nq = false := by
  simp [likeB, h]
theorem likeB_f2 {ct np nq k : Nat} {fo : Int32 → Int32} {p q : Nat → Int32} (hk : k < min np ct) (ha : ¬ fo (p k) = fo (q k)) : likeB ct fo p np q nq = false := by
  rw [Bool.eq_false_iff]
  intro h
  simp only [likeB, Bool.and_eq_true, decide_eq_true_eq, List.all_eq_true, List.mem_range] at h
  exact ha (h.2 k hk)
theorem mn_nI {a b : Nat} (ha : a < 2 ^ 31) (hb : b < 2 ^ 31) : (if nI b < nI a then nI b else nI a) = nI (min a b) := by
  by_cases h : b < a
  · rw [if_pos ((nI_ltI hb ha).mpr h), Nat.min_eq_right (Nat.le_of_lt h)]
  · rw [if_neg (fun q => h ((nI_ltI hb ha).mp q)), Nat.min_eq_left (by omega)]
def upB (fu g : Int32) : Bool := decide ((fu.toUInt32 >>> (g.toUInt32 &&& Int32.toUInt32 31)).toInt32 &&& 1 = 1)
def alB (tc bits : Int32) : Bool := decide ((bits.toUInt32 >>> (tc.toUInt32 &&& Int32.toUInt32 31)).toInt32 = 0)
def mbF (mt mw mf : Nat → Int32) (fu w : Int32) : Nat → Int32
  | 0 => 0
  | k + 1 => if mw k = w ∧ (mf k = -1 ∨ upB fu (mf k) = true) then mbF mt mw mf fu w k ||| ((1 : Int32) <<< (mt k &&& 31)) else mbF mt mw mf fu w k
def hasT (tn i : Int32) : Bool := !decide (i < 0) && !decide (tn ≤ i)
def hasK (tn i : Int32) : Bool := !decide (i < 0) && !decide (tn ≤ i) && !decide (24 ≤ i)
def adN (tc : Nat) : Nat := if tc < 24 then tc + 1 else tc
def adF (f : Nat → Int32) (tc : Nat) (v : Int32) : Nat → Int32 := if tc < 24 then upd f tc v else f
def adM (tc : Nat) (tm : Int32) : Int32 := if tc < 24 then tm else 1
def fbh (sr sp v : Int32) : Bool := !decide (v < 1) && !decide (99 < v) && (if sp ≤ 0 then decide (sp = 0) && !decide (sr = 0) else decide (sp - sp / 100 * 100 = 0))
def fbt (sp v : Int32) : Bool := !decide (v < 1) && !decide (9 < v) && !decide (sp - sp / 100 * 100 < 20) && decide ((sp - sp / 100 * 100) - (sp - sp / 100 * 100) / 10 * 10 = 0)
def sumA (sr sp sl v : Int32) : Bool × Int32 × Int32 × Int32 :=
  if sl = 0 then (true, 0, v, 1)
  else if v = 100 ∧ ¬ sp < 1 ∧ ¬ 9 < sp then (true, sr, 100 * sp, sl + 1)
  else if v = 1000 ∧ ¬ sp < 1 ∧ ¬ 999 < sp ∧ sr = 0 then (true, 1000 * sp, 0, sl + 1)
  else if fbh sr sp v = true ∨ fbt sp v = true then (true, sr, sp + v, sl + 1) else (false, sr, sp, sl)
def coA (sh cl b : Int32) : Bool × Int32 × Int32 := if cl = 0 then (if b = 0 then (false, sh, cl) else (true, b, cl + 1)) else if sh &&& b = 0 then (false, sh, cl) else (true, sh &&& b, cl + 1)
def sfF (fu g : Int32) (u : Bool) : Int32 := if u then fu ||| ((1 : Int32) <<< (g &&& 31)) else fu &&& (((1 : Int32) <<< (g &&& 31)) ^^^ (-1))

set_option maxHeartbeats 1000000 in
set_option maxRecDepth 100000 in
theorem c_X3_folded {l : Launch} {D : va_G} {cI cJ cW : ClassId} {t fa : Nat} {cu : Int32} {fo : Nat → Int32} {x : Int32}  : RO l yX3_folded wsX3_folded { frames := 0, cells := 0, slots := 0, locals := 0 } D (ty3 cI cJ cW) [.ref t, .int x] [(t, .inr (3, [.int (cu), .ref fa])), (fa, .inl (cI, 32, .inl fo))] (.int (foC fo x)) := by
  refine ro_of (cc := cX3_folded) (maxL := 3) (ret := (some .int)) (by decide) rfl (Nat.le_of_ble_eq_true rfl) ?_
  intro pr en ss mi below meth cd X hP hK ls hl
  obtain ⟨hx, hb, hml, hown, hts, hr, hlocks⟩ := id X
  have fl_13 := hts (.fieldLink RX3 13 "WordTables$Letters" "folds" "[I") (by decide +kernel)
  have in_X3 : ∀ w ∈ wsX30, w ∈ wsX3_folded := by decide +kernel
  have hl : lv_has ls 3 [(0, .ref t), (1, .int x)] := hl
  refine lv_iload_n hx hb dX3_folded_0 rfl (lv_at hl 1 rfl) ?_
  refine lv_sipush (v := 128) hx hb dX3_folded_1 (by decide) ?_
  refine lv_isub hx hb dX3_folded_4 ?_
  refine lv_istore_n (lv' := [(2, _), (0, _), (1, _)]) hx hb dX3_folded_5 rfl hl (by decide) rfl (fun ls hl => ?_)
  refine lv_iload_n hx hb dX3_folded_6 rfl (lv_at hl 0 rfl) ?_
  refine lv_if_lt (tgt := 26) hx hb dX3_folded_7 (by decide) (fun c_7 => ?_) (fun c_7 => ?_)
  · refine lv_iload_n hx hb dX3_folded_26 rfl (lv_at hl 2 rfl) ?_
    refine lv_bipush (v := 65) hx hb dX3_folded_27 (by decide) ?_
    refine lv_icmp_lt (tgt := 48) hx hb dX3_folded_29 (by decide) (fun c_29 => ?_) (fun c_29 => ?_)
    · refine lv_iload_n hx hb dX3_folded_48 rfl (lv_at hl 2 rfl) ?_
      exact ro_iret X (by simp [foC, foB, c_7, c_29]) dX3_folded_49
    · refine lv_iload_n hx hb dX3_folded_32 rfl (lv_at hl 2 rfl) ?_
      refine lv_bipush (v := 90) hx hb dX3_folded_33 (by decide) ?_
      refine lv_icmp_gt (tgt := 48) hx hb dX3_folded_35 (by decide) (fun c_35 => ?_) (fun c_35 => ?_)
      · refine lv_iload_n hx hb dX3_folded_48 rfl (lv_at hl 2 rfl) ?_
        exact ro_iret X (by simp [foC, foB, c_7, c_29, c_35]) dX3_folded_49
      · refine lv_iload_n hx hb dX3_folded_38 rfl (lv_at hl 2 rfl) ?_
        refine lv_bipush (v := 65) hx hb dX3_folded_39 (by decide) ?_
        refine lv_isub hx hb dX3_folded_41 ?_
        refine lv_bipush (v := 97) hx hb dX3_folded_42 (by decide) ?_
        refine lv_iadd hx hb dX3_folded_44 ?_
        refine lv_goto (tgt := 49) hx hb dX3_folded_45 (by decide) ?_
        exact ro_iret X (by simp [foC, foB, c_7, c_29, c_35]) dX3_folded_49
  · refine lv_iload_n hx hb dX3_folded_10 rfl (lv_at hl 0 rfl) ?_
    refine lv_aload_n hx hb dX3_folded_11 rfl (lv_at hl 1 rfl) ?_
    refine va_get (D := D) (ci := 3) (C := RX3) (T := TX3) (N := 2) hx hb hts in_X3 hown hK hP 0 rfl rfl 1 (by decide) fl_13 (fun _ h9 => h9) rfl dX3_folded_12 ?_
    refine va_alen (v := nI 32) hx hb hK hP 1 0 rfl rfl rfl dX3_folded_15 ?_
    refine lv_icmp_ge (tgt := 26) hx hb dX3_folded_16 (by decide) (fun c_16 => ?_) (fun c_16 => ?_)
    · refine lv_iload_n hx hb dX3_folded_26 rfl (lv_at hl 2 rfl) ?_
      refine lv_bipush (v := 65) hx hb dX3_folded_27 (by decide) ?_
      refine lv_icmp_lt (tgt := 48) hx hb dX3_folded_29 (by decide) (fun c_29 => ?_) (fun c_29 => ?_)
      · refine lv_iload_n hx hb dX3_folded_48 rfl (lv_at hl 2 rfl) ?_
        exact ro_iret X (by simp [foC, foB, c_7, c_16, c_29]) dX3_folded_49
      · refine lv_iload_n hx hb dX3_folded_32 rfl (lv_at hl 2 rfl) ?_
        refine lv_bipush (v := 90) hx hb dX3_folded_33 (by decide) ?_
        refine lv_icmp_gt (tgt := 48) hx hb dX3_folded_35 (by decide) (fun c_35 => ?_) (fun c_35 => ?_)
        · refine lv_iload_n hx hb dX3_folded_48 rfl (lv_at hl 2 rfl) ?_
          exact ro_iret X (by simp [foC, foB, c_7, c_16, c_29, c_35]) dX3_folded_49
        · refine lv_iload_n hx hb dX3_folded_38 rfl (lv_at hl 2 rfl) ?_
          refine lv_bipush (v := 65) hx hb dX3_folded_39 (by decide) ?_
          refine lv_isub hx hb dX3_folded_41 ?_
          refine lv_bipush (v := 97) hx hb dX3_folded_42 (by decide) ?_
          refine lv_iadd hx hb dX3_folded_44 ?_
          refine lv_goto (tgt := 49) hx hb dX3_folded_45 (by decide) ?_
          exact ro_iret X (by simp [foC, foB, c_7, c_16, c_29, c_35]) dX3_folded_49
    · refine lv_aload_n hx hb dX3_folded_19 rfl (lv_at hl 1 rfl) ?_
      refine va_get (D := D) (ci := 3) (C := RX3) (T := TX3) (N := 2) hx hb hts in_X3 hown hK hP 0 rfl rfl 1 (by decide) fl_13 (fun _ h9 => h9) rfl dX3_folded_20 ?_
      refine lv_iload_n hx hb dX3_folded_23 rfl (lv_at hl 0 rfl) ?_
      refine va_iald hx hb hK hP 1 0 rfl rfl (in_lt (by assumption) (by assumption) (by decide)) dX3_folded_24 ?_
      exact ro_iret X (by simp [foC, foB, c_7, c_16]) dX3_folded_25

set_option maxHeartbeats 1000000 in
set_option maxRecDepth 100000 in
theorem c_X3_changeFold {l : Launch} {D : va_G} {cI cJ cW : ClassId} {sz : Nat} {t fa : Nat} {cu : Int32} {fo : Nat → Int32} {x y : Int32}  : MU l yX3_changeFold wsX3_changeFold { frames := 0, cells := 0, slots := 0, locals := 0 } D (ty3 cI cJ cW) [.ref t, .int x, .int y] [(t, .inr (3, [.int (cu), .ref fa])), (fa, .inl (cI, 32, .inl fo))] sz none [(t, .inr (3, [.int (cu), .ref fa])), (fa, .inl (cI, 32, .inl (chF fo x y)))] := by
  refine mu_of (cc := cX3_changeFold) (maxL := 4) (ret := none) (by decide) rfl (Nat.le_of_ble_eq_true rfl) ?_
  intro pr en ss mi below meth cd X hK A hA hP hD hS ls hl
  obtain ⟨hx, hb, hml, hown, hts, hr, hlocks⟩ := id X
  have fl_13 := hts (.fieldLink RX3 13 "WordTables$Letters" "folds" "[I") (by decide +kernel)
  have in_X3 : ∀ w ∈ wsX30, w ∈ wsX3_changeFold := by decide +kernel
  have hl : lv_has ls 4 [(0, .ref t), (1, .int x), (2, .int y)] := hl
  refine lv_iload_n hx hb dX3_changeFold_0 rfl (lv_at hl 1 rfl) ?_
  refine lv_sipush (v := 128) hx hb dX3_changeFold_1 (by decide) ?_
  refine lv_isub hx hb dX3_changeFold_4 ?_
  refine lv_istore_n (lv' := [(3, _), (0, _), (1, _), (2, _)]) hx hb dX3_changeFold_5 rfl hl (by decide) rfl (fun ls hl => ?_)
  refine lv_iload_n hx hb dX3_changeFold_6 rfl (lv_at hl 0 rfl) ?_
  refine lv_if_lt (tgt := 26) hx hb dX3_changeFold_7 (by decide) (fun c_7 => ?_) (fun c_7 => ?_)
  · exact mu_vret X hP hS (by simp [chF, c_7]) dX3_changeFold_26
  · refine lv_iload_n hx hb dX3_changeFold_10 rfl (lv_at hl 0 rfl) ?_
    refine lv_aload_n hx hb dX3_changeFold_11 rfl (lv_at hl 1 rfl) ?_
    refine va_get (D := D) (ci := 3) (C := RX3) (T := TX3) (N := 2) hx hb hts in_X3 hown hK hP 0 rfl rfl 1 (by decide) fl_13 (fun _ h9 => h9) rfl dX3_changeFold_12 ?_
    refine va_alen (v := nI 32) hx hb hK hP 1 0 rfl rfl rfl dX3_changeFold_15 ?_
    refine lv_icmp_ge (tgt := 26) hx hb dX3_changeFold_16 (by decide) (fun c_16 => ?_) (fun c_16 => ?_)
    · exact mu_vret X hP hS (by simp [chF, c_7, c_16]) dX3_changeFold_26
    · refine lv_aload_n hx hb dX3_changeFold_19 rfl (lv_at hl 1 rfl) ?_
      refine va_get (D := D) (ci := 3) (C := RX3) (T := TX3) (N := 2) hx hb hts in_X3 hown hK hP 0 rfl rfl 1 (by decide) fl_13 (fun _ h9 => h9) rfl dX3_changeFold_20 ?_
      refine lv_iload_n hx hb dX3_changeFold_23 rfl (lv_at hl 0 rfl) ?_
      refine lv_iload_n hx hb dX3_changeFold_24 rfl (lv_at hl 3 rfl) ?_
      refine va_iast hx hb hK hP hD hS 1 0 rfl rfl (in_lt (by assumption) (by assumption) (by decide)) dX3_changeFold_25 (fun H locs hP hD hS => ?_)
      have hP : va_P D vwCl [(t, .inr (3, [_, .ref fa])), (fa, .inl (cI, 32, .inl _))] H := hP
      have hD : va_D A [(t, .inr (3, [_, .ref fa])), (fa, .inl (cI, 32, .inl _))] := hD
      exact mu_vret X hP hS (by simp [chF, c_7, c_16]) dX3_changeFold_26

set_option maxHeartbeats 1000000 in
set_option maxRecDepth 100000 in
theorem c_X3_areLike {l : Launch} {D : va_G} {cI cJ cW : ClassId} {t fa ct : Nat} {fo : Nat → Int32} {kh kb kn kN : Nat} {kf : Nat → Int32} {th tb tn tN : Nat} {tf : Nat → Int32} {fr ln : Nat} (hct : ct < 2 ^ 31) (hkN : kN < 2 ^ 31) (htN : tN < 2 ^ 31) (hkn : kn ≤ kN) (htn : tn ≤ tN) (hfl : fr + ln ≤ tn) : RO l yX3_areLike wsX3_areLike { frames := 1, cells := 0, slots := 0, locals := 22 } D (ty3 cI cJ cW) [.ref t, .ref kh, .ref th, .int (nI fr), .int (nI ln)] [(t, .inr (3, [.int (nI ct), .ref fa])), (fa, .inl (cI, 32, .inl fo)), (kh, .inr (4, [.ref kb, .int (nI kn)])), (kb, .inl (cI, kN, .inl kf)), (th, .inr (4, [.ref tb, .int (nI tn)])), (tb, .inl (cI, tN, .inl tf))] (.int (bI (likeB ct (foC fo) kf kn (fun k => tf (fr + k)) ln))) := by
  refine ro_of (cc := cX3_areLike) (maxL := 7) (ret := (some .boolean)) (by decide) rfl (Nat.le_of_ble_eq_true rfl) ?_
  intro pr en ss mi below meth cd X hP hK ls hl
  obtain ⟨hx, hb, hml, hown, hts, hr, hlocks⟩ := id X
  have fl_24 := hts (.fieldLink RX3 24 "WordTables$Row" "count" "I") (by decide +kernel)
  have fl_7 := hts (.fieldLink RX3 7 "WordTables$Letters" "cut" "I") (by decide +kernel)
  have in_X3 : ∀ w ∈ wsX30, w ∈ wsX3_areLike := by decide +kernel
  have in_X4 : ∀ w ∈ wsX40, w ∈ wsX3_areLike := by decide +kernel
  have hl : lv_has ls 7 [(0, .ref t), (1, .ref kh), (2, .ref th), (3, .int (nI fr)), (4, .int (nI ln))] := hl
  refine lv_aload_n hx hb dX3_areLike_0 rfl (lv_at hl 1 rfl) ?_
  refine va_get (D := D) (ci := 4) (C := RX4) (T := TX4) (N := 2) hx hb hts in_X4 hown hK hP 2 rfl rfl 1 (by decide) fl_24 (fun _ h9 => h9) rfl dX3_areLike_1 ?_
  refine lv_aload_n hx hb dX3_areLike_4 rfl (lv_at hl 0 rfl) ?_
  refine va_get (D := D) (ci := 3) (C := RX3) (T := TX3) (N := 2) hx hb hts in_X3 hown hK hP 0 rfl rfl 0 (by decide) fl_7 (fun _ h9 => h9) rfl dX3_areLike_5 ?_
  refine va_mmin hx hb (hml.trans hl.1.symm) hown (hts (.methodLink RX3 29 Lib.Math.min.name) (by decide +kernel)) (hts (.static Lib.Math.min.name) (by decide +kernel)) (hts (.initialized "java/lang/Math") (by decide +kernel)) (hts (.code Lib.Math.min.name Lib.Math.min.code 2 (some .int)) (by decide +kernel)) (Nat.le_of_ble_eq_true rfl) (Nat.le_of_ble_eq_true rfl) (Nat.zero_le _) (Nat.zero_le _) dX3_areLike_8 ?_
  rw [mn_nI (by omega) (by omega)]
  refine lv_istore (lv' := [(5, _), (0, _), (1, _), (2, _), (3, _), (4, _)]) hx hb dX3_areLike_11 hl (by decide) rfl (fun ls hl => ?_)
  refine lv_iload hx hb dX3_areLike_13 (lv_at hl 0 rfl) ?_
  refine lv_iload hx hb dX3_areLike_15 (lv_at hl 5 rfl) ?_
  refine lv_aload_n hx hb dX3_areLike_17 rfl (lv_at hl 1 rfl) ?_
  refine va_get (D := D) (ci := 3) (C := RX3) (T := TX3) (N := 2) hx hb hts in_X3 hown hK hP 0 rfl rfl 0 (by decide) fl_7 (fun _ h9 => h9) rfl dX3_areLike_18 ?_
  refine va_mmin hx hb (hml.trans hl.1.symm) hown (hts (.methodLink RX3 29 Lib.Math.min.name) (by decide +kernel)) (hts (.static Lib.Math.min.name) (by decide +kernel)) (hts (.initialized "java/lang/Math") (by decide +kernel)) (hts (.code Lib.Math.min.name Lib.Math.min.code 2 (some .int)) (by decide +kernel)) (Nat.le_of_ble_eq_true rfl) (Nat.le_of_ble_eq_true rfl) (Nat.zero_le _) (Nat.zero_le _) dX3_areLike_21 ?_
  rw [mn_nI (by omega) (by omega)]
  refine lv_icmp_eq (tgt := 29) hx hb dX3_areLike_24 (by decide) (fun c_24 => ?_) (fun c_24 => ?_)
  · have h_24 : min kn ct = min ln ct := (nI_eq (by omega) (by omega)).mp c_24
    refine lv_iconst (v := 0) hx hb dX3_areLike_29 (by decide) ?_
    refine lv_istore (lv' := [(6, _), (5, _), (0, _), (1, _), (2, _), (3, _), (4, _)]) hx hb dX3_areLike_30 hl (by decide) rfl (fun ls hl => ?_)
    have loop_32 : ∀ (fuel : Nat) (k : Nat), min kn ct - k < fuel → k ≤ min kn ct → (∀ i, i < k → foC fo (kf i) = foC fo (tf (fr + i))) → ∀ ls : Array Slot, lv_has ls 7 [(0, .ref t), (1, .ref kh), (2, .ref th), (3, .int (nI fr)), (4, .int (nI ln)), (5, .int (nI (min kn ct))), (6, .int (nI k))] → W pr l en { frames := 1, cells := 0, slots := 0, locals := 22 } ss mi ([.ref t, .ref kh, .ref th, .int (nI fr), .int (nI ln)] : List Value).toArray below meth cd ss.heap [] 0 0 (MQ below (k2_QcV (.int (bI (likeB ct (foC fo) kf kn (fun k => tf (fr + k)) ln)))) ([.ref t, .ref kh, .ref th, .int (nI fr), .int (nI ln)] : List Value).toArray ss 0 0 (fun _ => False)) (F0 mi 32 ls []) := by
      intro fuel
      induction fuel with
      | zero => intro k hm; exact absurd hm (Nat.not_lt_zero _)
      | succ fuel ih =>
        intro k hm hk ha  ls hl
        refine lv_iload hx hb dX3_areLike_32 (lv_at hl 6 rfl) ?_
        refine lv_iload hx hb dX3_areLike_34 (lv_at hl 5 rfl) ?_
        refine lv_icmp_ge (tgt := 72) hx hb dX3_areLike_36 (by decide) (fun c_36 => ?_) (fun c_36 => ?_)
        · have hkm : k = min kn ct := eq_ge c_36 hk (by omega)
          refine lv_iconst (v := 1) hx hb dX3_areLike_72 (by decide) ?_
          exact ro_zret X (by rw [likeB_t (fo := foC fo) (p := kf) (q := fun k => tf (fr + k)) h_24 (fun i hi => ha i (by omega))]; rfl) dX3_areLike_73
        · have hlt : k < min kn ct := lt_nge c_36 hk (by omega)
          refine lv_aload_n hx hb dX3_areLike_39 rfl (lv_at hl 0 rfl) ?_
          refine lv_aload_n hx hb dX3_areLike_40 rfl (lv_at hl 1 rfl) ?_
          refine lv_iload hx hb dX3_areLike_41 (lv_at hl 6 rfl) ?_
          refine ro_V (n := 1) X hK (c_X4_byteAt hkN) gX3_areLike_X4_byteAt rfl (by decide +kernel) ⟨rfl, rfl⟩ ⟨Nat.le_of_ble_eq_true rfl, Nat.le_of_ble_eq_true rfl⟩ (hP.sub [2, 3] rfl) (va_recv hK hP (ci := 4) (q0 := 2) rfl rfl) rfl hl.1 rfl (Nat.le_of_ble_eq_true rfl) dX3_areLike_43 ⟨Nat.zero_le _, Nat.zero_le _⟩ ?_
          refine ro_V (n := 1) X hK (c_X3_folded) gX3_areLike_X3_folded rfl (by decide +kernel) ⟨rfl, rfl⟩ ⟨Nat.le_of_ble_eq_true rfl, Nat.le_of_ble_eq_true rfl⟩ (hP.sub [0, 1] rfl) (va_recv hK hP (ci := 3) (q0 := 0) rfl rfl) rfl hl.1 rfl (Nat.le_of_ble_eq_true rfl) dX3_areLike_46 ⟨Nat.zero_le _, Nat.zero_le _⟩ ?_
          refine lv_aload_n hx hb dX3_areLike_49 rfl (lv_at hl 0 rfl) ?_
          refine lv_aload_n hx hb dX3_areLike_50 rfl (lv_at hl 2 rfl) ?_
          refine lv_iload_n hx hb dX3_areLike_51 rfl (lv_at hl 3 rfl) ?_
          refine lv_iload hx hb dX3_areLike_52 (lv_at hl 6 rfl) ?_
          refine lv_iadd hx hb dX3_areLike_54 ?_
          rw [nI_add]
          refine ro_V (n := 1) X hK (c_X4_byteAt htN) gX3_areLike_X4_byteAt rfl (by decide +kernel) ⟨rfl, rfl⟩ ⟨Nat.le_of_ble_eq_true rfl, Nat.le_of_ble_eq_true rfl⟩ (hP.sub [4, 5] rfl) (va_recv hK hP (ci := 4) (q0 := 4) rfl rfl) rfl hl.1 rfl (Nat.le_of_ble_eq_true rfl) dX3_areLike_55 ⟨Nat.zero_le _, Nat.zero_le _⟩ ?_
          refine ro_V (n := 1) X hK (c_X3_folded) gX3_areLike_X3_folded rfl (by decide +kernel) ⟨rfl, rfl⟩ ⟨Nat.le_of_ble_eq_true rfl, Nat.le_of_ble_eq_true rfl⟩ (hP.sub [0, 1] rfl) (va_recv hK hP (ci := 3) (q0 := 0) rfl rfl) rfl hl.1 rfl (Nat.le_of_ble_eq_true rfl) dX3_areLike_58 ⟨Nat.zero_le _, Nat.zero_le _⟩ ?_
          rw [rowAt_lt (n := kn) (N := kN) (k := k) (f := kf) (by omega) (by omega) (by omega) (by omega), rowAt_lt (n := tn) (N := tN) (k := fr + k) (f := tf) (by omega) (by omega) (by omega) (by omega)]
          refine lv_icmp_eq (tgt := 66) hx hb dX3_areLike_61 (by decide) (fun c_61 => ?_) (fun c_61 => ?_)
          · refine lv_iinc (v := (_ : Int32) + 1) (lv' := [(6, _), (0, _), (1, _), (2, _), (3, _), (4, _), (5, _)]) hx hb dX3_areLike_66 hl (k := 6) rfl rfl (by decide) rfl (fun ls hl => ?_)
            refine lv_goto (tgt := 32) hx hb dX3_areLike_69 (by decide) ?_
            rw [nI_1] at hl
            exact ih (k + 1) (by omega) (by omega) (lt_s ha c_61)  _ (lv_sub hl [1, 2, 3, 4, 5, 6, 0] rfl)
          · refine lv_iconst (v := 0) hx hb dX3_areLike_64 (by decide) ?_
            exact ro_zret X (by rw [likeB_f2 (fo := foC fo) (p := kf) (q := fun k => tf (fr + k)) hlt c_61]; rfl) dX3_areLike_65
    exact loop_32 (min kn ct + 1) 0 (by omega) (Nat.zero_le _) (fun i hi => absurd hi (Nat.not_lt_zero i))  ls (lv_sub hl [2, 3, 4, 5, 6, 1, 0] rfl)
  · have h_24 : ¬ min kn ct = min ln ct := fun q => c_24 (by rw [q])
    refine lv_iconst (v := 0) hx hb dX3_areLike_27 (by decide) ?_
    exact ro_zret X (by rw [likeB_f1 h_24]; rfl) dX3_areLike_28

set_option maxHeartbeats 1000000 in
set_option maxRecDepth 100000 in
theorem c_X9_isOneOf {l : Launch} {D : va_G} {cI cJ cW : ClassId} {wa wr : Nat} {w1 w2 w3 w4 w5 x : Int32}  : RO l yX9_isOneOf wsX9_isOneOf { frames := 0, cells := 0, slots := 0, locals := 0 } D (ty3 cI cJ cW) [.ref wa, .int x] [(wa, .inr (9, [.ref wr, .int w1, .int w2, .int w3, .int w4, .int w5]))] (.int (bI (decide (¬ w2 &&& x = 0)))) := by
  refine ro_of (cc := cX9_isOneOf) (maxL := 2) (ret := (some .boolean)) (by decide) rfl (Nat.le_of_ble_eq_true rfl) ?_
  intro pr en ss mi below meth cd X hP hK ls hl
  obtain ⟨hx, hb, hml, hown, hts, hr, hlocks⟩ := id X
  have fl_34 := hts (.fieldLink RX9 34 "WordTables$Word" "kinds" "I") (by decide +kernel)
  have in_X9 : ∀ w ∈ wsX90, w ∈ wsX9_isOneOf := by decide +kernel
  have hl : lv_has ls 2 [(0, .ref wa), (1, .int x)] := hl
  refine lv_aload_n hx hb dX9_isOneOf_0 rfl (lv_at hl 0 rfl) ?_
  refine va_get (D := D) (ci := 9) (C := RX9) (T := TX9) (N := 6) hx hb hts in_X9 hown hK hP 0 rfl rfl 2 (by decide) fl_34 (fun _ h9 => h9) rfl dX9_isOneOf_1 ?_
  refine lv_iload_n hx hb dX9_isOneOf_4 rfl (lv_at hl 1 rfl) ?_
  refine lv_iand hx hb dX9_isOneOf_5 ?_
  refine lv_if_eq (tgt := 13) hx hb dX9_isOneOf_6 (by decide) (fun c_6 => ?_) (fun c_6 => ?_)
  · refine lv_iconst (v := 0) hx hb dX9_isOneOf_13 (by decide) ?_
    exact ro_zret X (by simp [bI, c_6]) dX9_isOneOf_14
  · refine lv_iconst (v := 1) hx hb dX9_isOneOf_9 (by decide) ?_
    refine lv_goto (tgt := 14) hx hb dX9_isOneOf_10 (by decide) ?_
    exact ro_zret X (by simp [bI, c_6]) dX9_isOneOf_14

set_option maxHeartbeats 1000000 in
set_option maxRecDepth 100000 in
theorem c_X6_has {l : Launch} {D : va_G} {cI cJ cW : ClassId} {g g0 g1 g2 : Nat} {tc mc fu : Int32} {x : Int32}  : RO l yX6_has wsX6_has { frames := 0, cells := 0, slots := 0, locals := 0 } D (ty3 cI cJ cW) [.ref g, .int x] [(g, .inr (6, [.ref g0, .ref g1, .ref g2, .int tc, .int mc, .int fu]))] (.int (bI (hasT tc x))) := by
  refine ro_of (cc := cX6_has) (maxL := 2) (ret := (some .boolean)) (by decide) rfl (Nat.le_of_ble_eq_true rfl) ?_
  intro pr en ss mi below meth cd X hP hK ls hl
  obtain ⟨hx, hb, hml, hown, hts, hr, hlocks⟩ := id X
  have fl_21 := hts (.fieldLink RX6 21 "WordTables$Things" "count" "I") (by decide +kernel)
  have in_X6 : ∀ w ∈ wsX60, w ∈ wsX6_has := by decide +kernel
  have hl : lv_has ls 2 [(0, .ref g), (1, .int x)] := hl
  refine lv_iload_n hx hb dX6_has_0 rfl (lv_at hl 1 rfl) ?_
  refine lv_if_lt (tgt := 16) hx hb dX6_has_1 (by decide) (fun c_1 => ?_) (fun c_1 => ?_)
  · refine lv_iconst (v := 0) hx hb dX6_has_16 (by decide) ?_
    exact ro_zret X (by simp [hasT, bI, c_1]) dX6_has_17
  · refine lv_iload_n hx hb dX6_has_4 rfl (lv_at hl 1 rfl) ?_
    refine lv_aload_n hx hb dX6_has_5 rfl (lv_at hl 0 rfl) ?_
    refine va_get (D := D) (ci := 6) (C := RX6) (T := TX6) (N := 6) hx hb hts in_X6 hown hK hP 0 rfl rfl 3 (by decide) fl_21 (fun _ h9 => h9) rfl dX6_has_6 ?_
    refine lv_icmp_ge (tgt := 16) hx hb dX6_has_9 (by decide) (fun c_9 => ?_) (fun c_9 => ?_)
    · refine lv_iconst (v := 0) hx hb dX6_has_16 (by decide) ?_
      exact ro_zret X (by simp [hasT, bI, c_1, c_9]) dX6_has_17
    · refine lv_iconst (v := 1) hx hb dX6_has_12 (by decide) ?_
      refine lv_goto (tgt := 17) hx hb dX6_has_13 (by decide) ?_
      exact ro_zret X (by simp [hasT, bI, c_1, c_9]) dX6_has_17

set_option maxHeartbeats 1000000 in
set_option maxRecDepth 100000 in
theorem c_X6_areAll {l : Launch} {D : va_G} {cI cJ cW : ClassId} {g g0 g1 g2 : Nat} {tc mc fu : Int32} {x : Int32}  : RO l yX6_areAll wsX6_areAll { frames := 0, cells := 0, slots := 0, locals := 0 } D (ty3 cI cJ cW) [.ref g, .int x] [(g, .inr (6, [.ref g0, .ref g1, .ref g2, .int tc, .int mc, .int fu]))] (.int (bI (alB tc x))) := by
  refine ro_of (cc := cX6_areAll) (maxL := 2) (ret := (some .boolean)) (by decide) rfl (Nat.le_of_ble_eq_true rfl) ?_
  intro pr en ss mi below meth cd X hP hK ls hl
  obtain ⟨hx, hb, hml, hown, hts, hr, hlocks⟩ := id X
  have fl_21 := hts (.fieldLink RX6 21 "WordTables$Things" "count" "I") (by decide +kernel)
  have in_X6 : ∀ w ∈ wsX60, w ∈ wsX6_areAll := by decide +kernel
  have hl : lv_has ls 2 [(0, .ref g), (1, .int x)] := hl
  refine lv_iload_n hx hb dX6_areAll_0 rfl (lv_at hl 1 rfl) ?_
  refine lv_aload_n hx hb dX6_areAll_1 rfl (lv_at hl 0 rfl) ?_
  refine va_get (D := D) (ci := 6) (C := RX6) (T := TX6) (N := 6) hx hb hts in_X6 hown hK hP 0 rfl rfl 3 (by decide) fl_21 (fun _ h9 => h9) rfl dX6_areAll_2 ?_
  refine lv_iushr hx hb dX6_areAll_5 rfl ?_
  refine lv_if_ne (tgt := 13) hx hb dX6_areAll_6 (by decide) (fun c_6 => ?_) (fun c_6 => ?_)
  · refine lv_iconst (v := 0) hx hb dX6_areAll_13 (by decide) ?_
    exact ro_zret X (by simp [alB, bI, c_6]) dX6_areAll_14
  · refine lv_iconst (v := 1) hx hb dX6_areAll_9 (by decide) ?_
    refine lv_goto (tgt := 14) hx hb dX6_areAll_10 (by decide) ?_
    exact ro_zret X (by simp [alB, bI, c_6]) dX6_areAll_14

set_option maxHeartbeats 1000000 in
set_option maxRecDepth 100000 in
theorem c_X6_isUp {l : Launch} {D : va_G} {cI cJ cW : ClassId} {g g0 g1 g2 : Nat} {tc mc fu : Int32} {x : Int32}  : RO l yX6_isUp wsX6_isUp { frames := 0, cells := 0, slots := 0, locals := 0 } D (ty3 cI cJ cW) [.ref g, .int x] [(g, .inr (6, [.ref g0, .ref g1, .ref g2, .int tc, .int mc, .int fu]))] (.int (bI (upB fu x))) := by
  refine ro_of (cc := cX6_isUp) (maxL := 2) (ret := (some .boolean)) (by decide) rfl (Nat.le_of_ble_eq_true rfl) ?_
  intro pr en ss mi below meth cd X hP hK ls hl
  obtain ⟨hx, hb, hml, hown, hts, hr, hlocks⟩ := id X
  have fl_28 := hts (.fieldLink RX6 28 "WordTables$Things" "flagsUp" "I") (by decide +kernel)
  have in_X6 : ∀ w ∈ wsX60, w ∈ wsX6_isUp := by decide +kernel
  have hl : lv_has ls 2 [(0, .ref g), (1, .int x)] := hl
  refine lv_aload_n hx hb dX6_isUp_0 rfl (lv_at hl 0 rfl) ?_
  refine va_get (D := D) (ci := 6) (C := RX6) (T := TX6) (N := 6) hx hb hts in_X6 hown hK hP 0 rfl rfl 5 (by decide) fl_28 (fun _ h9 => h9) rfl dX6_isUp_1 ?_
  refine lv_iload_n hx hb dX6_isUp_4 rfl (lv_at hl 1 rfl) ?_
  refine lv_iushr hx hb dX6_isUp_5 rfl ?_
  refine lv_iconst (v := 1) hx hb dX6_isUp_6 (by decide) ?_
  refine lv_iand hx hb dX6_isUp_7 ?_
  refine lv_iconst (v := 1) hx hb dX6_isUp_8 (by decide) ?_
  refine lv_icmp_ne (tgt := 16) hx hb dX6_isUp_9 (by decide) (fun c_9 => ?_) (fun c_9 => ?_)
  · refine lv_iconst (v := 0) hx hb dX6_isUp_16 (by decide) ?_
    exact ro_zret X (by simp [upB, bI, c_9]) dX6_isUp_17
  · refine lv_iconst (v := 1) hx hb dX6_isUp_12 (by decide) ?_
    refine lv_goto (tgt := 17) hx hb dX6_isUp_13 (by decide) ?_
    exact ro_zret X (by simp [upB, bI, c_9]) dX6_isUp_17

set_option maxHeartbeats 1000000 in
set_option maxRecDepth 100000 in
theorem c_X6_addThing {l : Launch} {D : va_G} {cI cJ cW : ClassId} {sz : Nat} {g g0 g1 g2 : Nat} {tc mc fu : Int32}  : MU l yX6_addThing wsX6_addThing { frames := 0, cells := 0, slots := 0, locals := 0 } D (ty3 cI cJ cW) [.ref g] [(g, .inr (6, [.ref g0, .ref g1, .ref g2, .int tc, .int mc, .int fu]))] sz (some (.int (bI (decide (tc < 12))))) [(g, .inr (6, [.ref g0, .ref g1, .ref g2, .int (if tc < 12 then tc + 1 else tc), .int mc, .int fu]))] := by
  refine mu_of (cc := cX6_addThing) (maxL := 1) (ret := (some .boolean)) (by decide) rfl (Nat.le_of_ble_eq_true rfl) ?_
  intro pr en ss mi below meth cd X hK A hA hP hD hS ls hl
  obtain ⟨hx, hb, hml, hown, hts, hr, hlocks⟩ := id X
  have fl_21 := hts (.fieldLink RX6 21 "WordTables$Things" "count" "I") (by decide +kernel)
  have in_X6 : ∀ w ∈ wsX60, w ∈ wsX6_addThing := by decide +kernel
  have hl : lv_has ls 1 [(0, .ref g)] := hl
  refine lv_aload_n hx hb dX6_addThing_0 rfl (lv_at hl 0 rfl) ?_
  refine va_get (D := D) (ci := 6) (C := RX6) (T := TX6) (N := 6) hx hb hts in_X6 hown hK hP 0 rfl rfl 3 (by decide) fl_21 (fun _ h9 => h9) rfl dX6_addThing_1 ?_
  refine lv_bipush (v := 12) hx hb dX6_addThing_4 (by decide) ?_
  refine lv_icmp_lt (tgt := 11) hx hb dX6_addThing_6 (by decide) (fun c_6 => ?_) (fun c_6 => ?_)
  · refine lv_aload_n hx hb dX6_addThing_11 rfl (lv_at hl 0 rfl) ?_
    refine lv_dup hx hb dX6_addThing_12 rfl ?_
    refine va_get (D := D) (ci := 6) (C := RX6) (T := TX6) (N := 6) hx hb hts in_X6 hown hK hP 0 rfl rfl 3 (by decide) fl_21 (fun _ h9 => h9) rfl dX6_addThing_13 ?_
    refine lv_iconst (v := 1) hx hb dX6_addThing_16 (by decide) ?_
    refine lv_iadd hx hb dX6_addThing_17 ?_
    refine va_put (D := D) (ci := 6) (ty := .int) (C := RX6) (T := TX6) (N := 6) hx hb hts in_X6 tyX6 tyX6_ok nmX6 hown hK hP hD hS 0 rfl rfl 3 (by decide) fl_21 (fun _ h9 => h9) rfl (by decide +kernel) rfl rfl (Nat.le_of_ble_eq_true rfl) dX6_addThing_18 (fun H locs hP hD hS => ?_)
    have hP : va_P D vwCl [(g, .inr (6, [.ref g0, .ref g1, .ref g2, _, _, _]))] H := hP
    have hD : va_D A [(g, .inr (6, [.ref g0, .ref g1, .ref g2, _, _, _]))] := hD
    refine lv_iconst (v := 1) hx hb dX6_addThing_21 (by decide) ?_
    exact mu_zret X hP hS (by simp [bI, c_6]) (by simp [bI, c_6]) dX6_addThing_22
  · refine lv_iconst (v := 0) hx hb dX6_addThing_9 (by decide) ?_
    exact mu_zret X hP hS (by simp [bI, c_6]) (by simp [bI, c_6]) dX6_addThing_10

set_option maxHeartbeats 1000000 in
set_option maxRecDepth 100000 in
theorem c_X6_setFlag {l : Launch} {D : va_G} {cI cJ cW : ClassId} {sz : Nat} {g g0 g1 g2 : Nat} {tc mc fu : Int32} {x : Int32} {u : Bool}  : MU l yX6_setFlag wsX6_setFlag { frames := 0, cells := 0, slots := 0, locals := 0 } D (ty3 cI cJ cW) [.ref g, .int x, .int (bI u)] [(g, .inr (6, [.ref g0, .ref g1, .ref g2, .int tc, .int mc, .int fu]))] sz none [(g, .inr (6, [.ref g0, .ref g1, .ref g2, .int tc, .int mc, .int (sfF fu x u)]))] := by
  refine mu_of (cc := cX6_setFlag) (maxL := 4) (ret := none) (by decide) rfl (Nat.le_of_ble_eq_true rfl) ?_
  intro pr en ss mi below meth cd X hK A hA hP hD hS ls hl
  obtain ⟨hx, hb, hml, hown, hts, hr, hlocks⟩ := id X
  have fl_28 := hts (.fieldLink RX6 28 "WordTables$Things" "flagsUp" "I") (by decide +kernel)
  have in_X6 : ∀ w ∈ wsX60, w ∈ wsX6_setFlag := by decide +kernel
  have hl : lv_has ls 4 [(0, .ref g), (1, .int x), (2, .int (bI u))] := hl
  refine lv_iconst (v := 1) hx hb dX6_setFlag_0 (by decide) ?_
  refine lv_iload_n hx hb dX6_setFlag_1 rfl (lv_at hl 1 rfl) ?_
  refine lv_ishl hx hb dX6_setFlag_2 ?_
  refine lv_istore_n (lv' := [(3, _), (0, _), (1, _), (2, _)]) hx hb dX6_setFlag_3 rfl hl (by decide) rfl (fun ls hl => ?_)
  refine lv_aload_n hx hb dX6_setFlag_4 rfl (lv_at hl 1 rfl) ?_
  refine lv_iload_n hx hb dX6_setFlag_5 rfl (lv_at hl 3 rfl) ?_
  refine lv_if_eq (tgt := 18) hx hb dX6_setFlag_6 (by decide) (fun c_6 => ?_) (fun c_6 => ?_)
  · refine lv_aload_n hx hb dX6_setFlag_18 rfl (lv_at hl 1 rfl) ?_
    refine va_get (D := D) (ci := 6) (C := RX6) (T := TX6) (N := 6) hx hb hts in_X6 hown hK hP 0 rfl rfl 5 (by decide) fl_28 (fun _ h9 => h9) rfl dX6_setFlag_19 ?_
    refine lv_iload_n hx hb dX6_setFlag_22 rfl (lv_at hl 0 rfl) ?_
    refine lv_iconst (v := -1) hx hb dX6_setFlag_23 (by decide) ?_
    refine lv_ixor hx hb dX6_setFlag_24 ?_
    refine lv_iand hx hb dX6_setFlag_25 ?_
    refine va_put (D := D) (ci := 6) (ty := .int) (C := RX6) (T := TX6) (N := 6) hx hb hts in_X6 tyX6 tyX6_ok nmX6 hown hK hP hD hS 0 rfl rfl 5 (by decide) fl_28 (fun _ h9 => h9) rfl (by decide +kernel) rfl rfl (Nat.le_of_ble_eq_true rfl) dX6_setFlag_26 (fun H locs hP hD hS => ?_)
    have hP : va_P D vwCl [(g, .inr (6, [.ref g0, .ref g1, .ref g2, _, _, _]))] H := hP
    have hD : va_D A [(g, .inr (6, [.ref g0, .ref g1, .ref g2, _, _, _]))] := hD
    exact mu_vret X hP hS (by cases u <;> simp_all [bI, sfF]) dX6_setFlag_29
  · refine lv_aload_n hx hb dX6_setFlag_9 rfl (lv_at hl 1 rfl) ?_
    refine va_get (D := D) (ci := 6) (C := RX6) (T := TX6) (N := 6) hx hb hts in_X6 hown hK hP 0 rfl rfl 5 (by decide) fl_28 (fun _ h9 => h9) rfl dX6_setFlag_10 ?_
    refine lv_iload_n hx hb dX6_setFlag_13 rfl (lv_at hl 0 rfl) ?_
    refine lv_ior hx hb dX6_setFlag_14 ?_
    refine lv_goto (tgt := 26) hx hb dX6_setFlag_15 (by decide) ?_
    refine va_put (D := D) (ci := 6) (ty := .int) (C := RX6) (T := TX6) (N := 6) hx hb hts in_X6 tyX6 tyX6_ok nmX6 hown hK hP hD hS 0 rfl rfl 5 (by decide) fl_28 (fun _ h9 => h9) rfl (by decide +kernel) rfl rfl (Nat.le_of_ble_eq_true rfl) dX6_setFlag_26 (fun H locs hP hD hS => ?_)
    have hP : va_P D vwCl [(g, .inr (6, [.ref g0, .ref g1, .ref g2, _, _, _]))] H := hP
    have hD : va_D A [(g, .inr (6, [.ref g0, .ref g1, .ref g2, _, _, _]))] := hD
    exact mu_vret X hP hS (by cases u <;> simp_all [bI, sfF]) dX6_setFlag_29

set_option maxHeartbeats 1000000 in
set_option maxRecDepth 100000 in
theorem c_X6_addMeaning {l : Launch} {D : va_G} {cI cJ cW : ClassId} {sz : Nat} {g g0 g1 g2 : Nat} {tc fu : Int32} {mt mw mf : Nat → Int32} {mm : Nat} {x y z : Int32} (hmm : mm ≤ 60) : MU l yX6_addMeaning wsX6_addMeaning { frames := 0, cells := 0, slots := 0, locals := 0 } D (ty3 cI cJ cW) [.ref g, .int x, .int y, .int z] [(g, .inr (6, [.ref g0, .ref g1, .ref g2, .int tc, .int (nI mm), .int fu])), (g0, .inl (cI, 60, .inl mt)), (g1, .inl (cI, 60, .inl mw)), (g2, .inl (cI, 60, .inl mf))] sz (some (.int (bI (decide (mm < 60))))) [(g, .inr (6, [.ref g0, .ref g1, .ref g2, .int tc, .int (nI (if mm < 60 then mm + 1 else mm)), .int fu])), (g0, .inl (cI, 60, .inl (if mm < 60 then upd mt mm x else mt))), (g1, .inl (cI, 60, .inl (if mm < 60 then upd mw mm y else mw))), (g2, .inl (cI, 60, .inl (if mm < 60 then upd mf mm z else mf)))] := by
  refine mu_of (cc := cX6_addMeaning) (maxL := 4) (ret := (some .boolean)) (by decide) rfl (Nat.le_of_ble_eq_true rfl) ?_
  intro pr en ss mi below meth cd X hK A hA hP hD hS ls hl
  obtain ⟨hx, hb, hml, hown, hts, hr, hlocks⟩ := id X
  have fl_15 := hts (.fieldLink RX6 15 "WordTables$Things" "meaningWords" "[I") (by decide +kernel)
  have fl_18 := hts (.fieldLink RX6 18 "WordTables$Things" "meaningFlags" "[I") (by decide +kernel)
  have fl_25 := hts (.fieldLink RX6 25 "WordTables$Things" "meaningCount" "I") (by decide +kernel)
  have fl_9 := hts (.fieldLink RX6 9 "WordTables$Things" "meaningThings" "[I") (by decide +kernel)
  have in_X6 : ∀ w ∈ wsX60, w ∈ wsX6_addMeaning := by decide +kernel
  have hl : lv_has ls 4 [(0, .ref g), (1, .int x), (2, .int y), (3, .int z)] := hl
  refine lv_aload_n hx hb dX6_addMeaning_0 rfl (lv_at hl 0 rfl) ?_
  refine va_get (D := D) (ci := 6) (C := RX6) (T := TX6) (N := 6) hx hb hts in_X6 hown hK hP 0 rfl rfl 4 (by decide) fl_25 (fun _ h9 => h9) rfl dX6_addMeaning_1 ?_
  refine lv_if_lt (tgt := 16) hx hb dX6_addMeaning_4 (by decide) (fun c_4 => ?_) (fun c_4 => ?_)
  · have hm : ¬ mm < 60 := by first | exact absurd c_4 (nI_pos (by omega)) | exact fun q => c_13 ((nI_ltI (by omega) (by decide)).mpr q)
    refine lv_iconst (v := 0) hx hb dX6_addMeaning_16 (by decide) ?_
    exact mu_zret X hP hS (by simp [bI, hm, nI_1]) (by simp [bI, hm, nI_1]) dX6_addMeaning_17
  · refine lv_aload_n hx hb dX6_addMeaning_7 rfl (lv_at hl 0 rfl) ?_
    refine va_get (D := D) (ci := 6) (C := RX6) (T := TX6) (N := 6) hx hb hts in_X6 hown hK hP 0 rfl rfl 4 (by decide) fl_25 (fun _ h9 => h9) rfl dX6_addMeaning_8 ?_
    refine lv_bipush (v := 60) hx hb dX6_addMeaning_11 (by decide) ?_
    refine lv_icmp_lt (tgt := 18) hx hb dX6_addMeaning_13 (by decide) (fun c_13 => ?_) (fun c_13 => ?_)
    · have hm : mm < 60 := (nI_ltI (by omega) (by decide)).mp c_13
      refine lv_aload_n hx hb dX6_addMeaning_18 rfl (lv_at hl 0 rfl) ?_
      refine va_get (D := D) (ci := 6) (C := RX6) (T := TX6) (N := 6) hx hb hts in_X6 hown hK hP 0 rfl rfl 0 (by decide) fl_9 (fun _ h9 => h9) rfl dX6_addMeaning_19 ?_
      refine lv_aload_n hx hb dX6_addMeaning_22 rfl (lv_at hl 0 rfl) ?_
      refine va_get (D := D) (ci := 6) (C := RX6) (T := TX6) (N := 6) hx hb hts in_X6 hown hK hP 0 rfl rfl 4 (by decide) fl_25 (fun _ h9 => h9) rfl dX6_addMeaning_23 ?_
      refine lv_iload_n hx hb dX6_addMeaning_26 rfl (lv_at hl 1 rfl) ?_
      refine ast_n hx hb hK hP hD hS 1 0 rfl rfl hm (by decide) dX6_addMeaning_27 (fun H locs hP hD hS => ?_)
      have hP : va_P D vwCl [(g, .inr (6, [.ref g0, .ref g1, .ref g2, _, _, _])), (g0, .inl (cI, 60, .inl _)), (g1, .inl (cI, 60, .inl _)), (g2, .inl (cI, 60, .inl _))] H := hP
      have hD : va_D A [(g, .inr (6, [.ref g0, .ref g1, .ref g2, _, _, _])), (g0, .inl (cI, 60, .inl _)), (g1, .inl (cI, 60, .inl _)), (g2, .inl (cI, 60, .inl _))] := hD
      refine lv_aload_n hx hb dX6_addMeaning_28 rfl (lv_at hl 0 rfl) ?_
      refine va_get (D := D) (ci := 6) (C := RX6) (T := TX6) (N := 6) hx hb hts in_X6 hown hK hP 0 rfl rfl 1 (by decide) fl_15 (fun _ h9 => h9) rfl dX6_addMeaning_29 ?_
      refine lv_aload_n hx hb dX6_addMeaning_32 rfl (lv_at hl 0 rfl) ?_
      refine va_get (D := D) (ci := 6) (C := RX6) (T := TX6) (N := 6) hx hb hts in_X6 hown hK hP 0 rfl rfl 4 (by decide) fl_25 (fun _ h9 => h9) rfl dX6_addMeaning_33 ?_
      refine lv_iload_n hx hb dX6_addMeaning_36 rfl (lv_at hl 2 rfl) ?_
      refine ast_n hx hb hK hP hD hS 2 0 rfl rfl hm (by decide) dX6_addMeaning_37 (fun H locs hP hD hS => ?_)
      have hP : va_P D vwCl [(g, .inr (6, [.ref g0, .ref g1, .ref g2, _, _, _])), (g0, .inl (cI, 60, .inl _)), (g1, .inl (cI, 60, .inl _)), (g2, .inl (cI, 60, .inl _))] H := hP
      have hD : va_D A [(g, .inr (6, [.ref g0, .ref g1, .ref g2, _, _, _])), (g0, .inl (cI, 60, .inl _)), (g1, .inl (cI, 60, .inl _)), (g2, .inl (cI, 60, .inl _))] := hD
      refine lv_aload_n hx hb dX6_addMeaning_38 rfl (lv_at hl 0 rfl) ?_
      refine va_get (D := D) (ci := 6) (C := RX6) (T := TX6) (N := 6) hx hb hts in_X6 hown hK hP 0 rfl rfl 2 (by decide) fl_18 (fun _ h9 => h9) rfl dX6_addMeaning_39 ?_
      refine lv_aload_n hx hb dX6_addMeaning_42 rfl (lv_at hl 0 rfl) ?_
      refine va_get (D := D) (ci := 6) (C := RX6) (T := TX6) (N := 6) hx hb hts in_X6 hown hK hP 0 rfl rfl 4 (by decide) fl_25 (fun _ h9 => h9) rfl dX6_addMeaning_43 ?_
      refine lv_iload_n hx hb dX6_addMeaning_46 rfl (lv_at hl 3 rfl) ?_
      refine ast_n hx hb hK hP hD hS 3 0 rfl rfl hm (by decide) dX6_addMeaning_47 (fun H locs hP hD hS => ?_)
      have hP : va_P D vwCl [(g, .inr (6, [.ref g0, .ref g1, .ref g2, _, _, _])), (g0, .inl (cI, 60, .inl _)), (g1, .inl (cI, 60, .inl _)), (g2, .inl (cI, 60, .inl _))] H := hP
      have hD : va_D A [(g, .inr (6, [.ref g0, .ref g1, .ref g2, _, _, _])), (g0, .inl (cI, 60, .inl _)), (g1, .inl (cI, 60, .inl _)), (g2, .inl (cI, 60, .inl _))] := hD
      refine lv_aload_n hx hb dX6_addMeaning_48 rfl (lv_at hl 0 rfl) ?_
      refine lv_dup hx hb dX6_addMeaning_49 rfl ?_
      refine va_get (D := D) (ci := 6) (C := RX6) (T := TX6) (N := 6) hx hb hts in_X6 hown hK hP 0 rfl rfl 4 (by decide) fl_25 (fun _ h9 => h9) rfl dX6_addMeaning_50 ?_
      refine lv_iconst (v := 1) hx hb dX6_addMeaning_53 (by decide) ?_
      refine lv_iadd hx hb dX6_addMeaning_54 ?_
      refine va_put (D := D) (ci := 6) (ty := .int) (C := RX6) (T := TX6) (N := 6) hx hb hts in_X6 tyX6 tyX6_ok nmX6 hown hK hP hD hS 0 rfl rfl 4 (by decide) fl_25 (fun _ h9 => h9) rfl (by decide +kernel) rfl rfl (Nat.le_of_ble_eq_true rfl) dX6_addMeaning_55 (fun H locs hP hD hS => ?_)
      have hP : va_P D vwCl [(g, .inr (6, [.ref g0, .ref g1, .ref g2, _, _, _])), (g0, .inl (cI, 60, .inl _)), (g1, .inl (cI, 60, .inl _)), (g2, .inl (cI, 60, .inl _))] H := hP
      have hD : va_D A [(g, .inr (6, [.ref g0, .ref g1, .ref g2, _, _, _])), (g0, .inl (cI, 60, .inl _)), (g1, .inl (cI, 60, .inl _)), (g2, .inl (cI, 60, .inl _))] := hD
      refine lv_iconst (v := 1) hx hb dX6_addMeaning_58 (by decide) ?_
      exact mu_zret X hP hS (by simp [bI, hm, nI_1]) (by simp [bI, hm, nI_1]) dX6_addMeaning_59
    · have hm : ¬ mm < 60 := by first | exact absurd c_4 (nI_pos (by omega)) | exact fun q => c_13 ((nI_ltI (by omega) (by decide)).mpr q)
      refine lv_iconst (v := 0) hx hb dX6_addMeaning_16 (by decide) ?_
      exact mu_zret X hP hS (by simp [bI, hm, nI_1]) (by simp [bI, hm, nI_1]) dX6_addMeaning_17

set_option maxHeartbeats 1000000 in
set_option maxRecDepth 100000 in
theorem c_X6_meantBy {l : Launch} {D : va_G} {cI cJ cW : ClassId} {g g0 g1 g2 : Nat} {tc fu : Int32} {mt mw mf : Nat → Int32} {mm : Nat} {x : Int32} (hmm : mm ≤ 60) : RO l yX6_meantBy wsX6_meantBy { frames := 1, cells := 0, slots := 0, locals := 21 } D (ty3 cI cJ cW) [.ref g, .int x] [(g, .inr (6, [.ref g0, .ref g1, .ref g2, .int tc, .int (nI mm), .int fu])), (g0, .inl (cI, 60, .inl mt)), (g1, .inl (cI, 60, .inl mw)), (g2, .inl (cI, 60, .inl mf))] (.int (mbF mt mw mf fu x mm)) := by
  refine ro_of (cc := cX6_meantBy) (maxL := 5) (ret := (some .int)) (by decide) rfl (Nat.le_of_ble_eq_true rfl) ?_
  intro pr en ss mi below meth cd X hP hK ls hl
  obtain ⟨hx, hb, hml, hown, hts, hr, hlocks⟩ := id X
  have fl_15 := hts (.fieldLink RX6 15 "WordTables$Things" "meaningWords" "[I") (by decide +kernel)
  have fl_18 := hts (.fieldLink RX6 18 "WordTables$Things" "meaningFlags" "[I") (by decide +kernel)
  have fl_25 := hts (.fieldLink RX6 25 "WordTables$Things" "meaningCount" "I") (by decide +kernel)
  have fl_9 := hts (.fieldLink RX6 9 "WordTables$Things" "meaningThings" "[I") (by decide +kernel)
  have in_X6 : ∀ w ∈ wsX60, w ∈ wsX6_meantBy := by decide +kernel
  have hl : lv_has ls 5 [(0, .ref g), (1, .int x)] := hl
  refine lv_iconst (v := 0) hx hb dX6_meantBy_0 (by decide) ?_
  refine lv_istore_n (lv' := [(2, _), (0, _), (1, _)]) hx hb dX6_meantBy_1 rfl hl (by decide) rfl (fun ls hl => ?_)
  refine lv_iconst (v := 0) hx hb dX6_meantBy_2 (by decide) ?_
  refine lv_istore_n (lv' := [(3, _), (2, _), (0, _), (1, _)]) hx hb dX6_meantBy_3 rfl hl (by decide) rfl (fun ls hl => ?_)
  have loop_4 : ∀ (fuel : Nat) (k : Nat) (v : Int32), mm - k < fuel → k ≤ mm → v = mbF mt mw mf fu x k → ∀ ls : Array Slot, lv_has ls 5 [(0, .ref g), (1, .int x), (2, .int v), (3, .int (nI k))] → W pr l en { frames := 1, cells := 0, slots := 0, locals := 21 } ss mi ([.ref g, .int x] : List Value).toArray below meth cd ss.heap [] 0 0 (MQ below (k2_QcV (.int (mbF mt mw mf fu x mm))) ([.ref g, .int x] : List Value).toArray ss 0 0 (fun _ => False)) (F0 mi 4 ls []) := by
    intro fuel
    induction fuel with
    | zero => intro k v hm; exact absurd hm (Nat.not_lt_zero _)
    | succ fuel ih =>
      intro k v hm hk hv  ls hl
      refine lv_iload_n hx hb dX6_meantBy_4 rfl (lv_at hl 3 rfl) ?_
      refine lv_aload_n hx hb dX6_meantBy_5 rfl (lv_at hl 0 rfl) ?_
      refine va_get (D := D) (ci := 6) (C := RX6) (T := TX6) (N := 6) hx hb hts in_X6 hown hK hP 0 rfl rfl 4 (by decide) fl_25 (fun _ h9 => h9) rfl dX6_meantBy_6 ?_
      refine lv_icmp_ge (tgt := 80) hx hb dX6_meantBy_9 (by decide) (fun c_9 => ?_) (fun c_9 => ?_)
      · have hkm : k = mm := by first | exact eq_ge c_9 hk (by omega) | exact absurd c_15 (nI_ge (show k < 60 by omega) (by decide))
        refine lv_iload_n hx hb dX6_meantBy_80 rfl (lv_at hl 2 rfl) ?_
        exact ro_iret X (by rw [hv, hkm]) dX6_meantBy_81
      · have hlt : k < mm := lt_nge c_9 hk (by omega)
        refine lv_iload_n hx hb dX6_meantBy_12 rfl (lv_at hl 3 rfl) ?_
        refine lv_bipush (v := 60) hx hb dX6_meantBy_13 (by decide) ?_
        refine lv_icmp_ge (tgt := 80) hx hb dX6_meantBy_15 (by decide) (fun c_15 => ?_) (fun c_15 => ?_)
        · have hkm : k = mm := by first | exact eq_ge c_9 hk (by omega) | exact absurd c_15 (nI_ge (show k < 60 by omega) (by decide))
          refine lv_iload_n hx hb dX6_meantBy_80 rfl (lv_at hl 2 rfl) ?_
          exact ro_iret X (by rw [hv, hkm]) dX6_meantBy_81
        · refine lv_aload_n hx hb dX6_meantBy_18 rfl (lv_at hl 0 rfl) ?_
          refine va_get (D := D) (ci := 6) (C := RX6) (T := TX6) (N := 6) hx hb hts in_X6 hown hK hP 0 rfl rfl 2 (by decide) fl_18 (fun _ h9 => h9) rfl dX6_meantBy_19 ?_
          refine lv_iload_n hx hb dX6_meantBy_22 rfl (lv_at hl 3 rfl) ?_
          refine ald_n hx hb hK hP 3 0 rfl rfl (show k < 60 by omega) (by decide) dX6_meantBy_23 ?_
          refine lv_iconst (v := -1) hx hb dX6_meantBy_24 (by decide) ?_
          refine lv_icmp_eq (tgt := 41) hx hb dX6_meantBy_25 (by decide) (fun c_25 => ?_) (fun c_25 => ?_)
          · refine lv_iconst (v := 1) hx hb dX6_meantBy_41 (by decide) ?_
            refine lv_goto (tgt := 46) hx hb dX6_meantBy_42 (by decide) ?_
            refine lv_istore (lv' := [(4, _), (0, _), (1, _), (2, _), (3, _)]) hx hb dX6_meantBy_46 hl (by decide) rfl (fun ls hl => ?_)
            refine lv_aload_n hx hb dX6_meantBy_48 rfl (lv_at hl 1 rfl) ?_
            refine va_get (D := D) (ci := 6) (C := RX6) (T := TX6) (N := 6) hx hb hts in_X6 hown hK hP 0 rfl rfl 1 (by decide) fl_15 (fun _ h9 => h9) rfl dX6_meantBy_49 ?_
            refine lv_iload_n hx hb dX6_meantBy_52 rfl (lv_at hl 4 rfl) ?_
            refine ald_n hx hb hK hP 2 0 rfl rfl (show k < 60 by omega) (by decide) dX6_meantBy_53 ?_
            refine lv_iload_n hx hb dX6_meantBy_54 rfl (lv_at hl 2 rfl) ?_
            refine lv_icmp_ne (tgt := 74) hx hb dX6_meantBy_55 (by decide) (fun c_55 => ?_) (fun c_55 => ?_)
            · refine lv_iinc (v := (_ : Int32) + 1) (lv' := [(3, _), (4, _), (0, _), (1, _), (2, _)]) hx hb dX6_meantBy_74 hl (k := 4) rfl rfl (by decide) rfl (fun ls hl => ?_)
              refine lv_goto (tgt := 4) hx hb dX6_meantBy_77 (by decide) ?_
              rw [nI_1] at hl
              exact ih (k + 1) _ (by omega) (by omega) (by rw [mbF, ← hv]; simp [c_9, c_15, c_25, c_55])  _ (lv_sub hl [2, 3, 4, 0] rfl)
            · refine lv_iload hx hb dX6_meantBy_58 (lv_at hl 0 rfl) ?_
              refine lv_if_eq (tgt := 74) hx hb dX6_meantBy_60 (by decide) (fun c_60 => absurd c_60 (by decide)) (fun _ => ?_)
              refine lv_iload_n hx hb dX6_meantBy_63 rfl (lv_at hl 3 rfl) ?_
              refine lv_iconst (v := 1) hx hb dX6_meantBy_64 (by decide) ?_
              refine lv_aload_n hx hb dX6_meantBy_65 rfl (lv_at hl 1 rfl) ?_
              refine va_get (D := D) (ci := 6) (C := RX6) (T := TX6) (N := 6) hx hb hts in_X6 hown hK hP 0 rfl rfl 0 (by decide) fl_9 (fun _ h9 => h9) rfl dX6_meantBy_66 ?_
              refine lv_iload_n hx hb dX6_meantBy_69 rfl (lv_at hl 4 rfl) ?_
              refine ald_n hx hb hK hP 1 0 rfl rfl (show k < 60 by omega) (by decide) dX6_meantBy_70 ?_
              refine lv_ishl hx hb dX6_meantBy_71 ?_
              refine lv_ior hx hb dX6_meantBy_72 ?_
              refine lv_istore_n (lv' := [(2, _), (4, _), (0, _), (1, _), (3, _)]) hx hb dX6_meantBy_73 rfl hl (by decide) rfl (fun ls hl => ?_)
              refine lv_iinc (v := (_ : Int32) + 1) (lv' := [(3, _), (2, _), (4, _), (0, _), (1, _)]) hx hb dX6_meantBy_74 hl (k := 4) rfl rfl (by decide) rfl (fun ls hl => ?_)
              refine lv_goto (tgt := 4) hx hb dX6_meantBy_77 (by decide) ?_
              rw [nI_1] at hl
              exact ih (k + 1) _ (by omega) (by omega) (by rw [mbF, ← hv]; simp [c_9, c_15, c_25, c_55])  _ (lv_sub hl [3, 4, 1, 0] rfl)
          · refine lv_aload_n hx hb dX6_meantBy_28 rfl (lv_at hl 0 rfl) ?_
            refine lv_aload_n hx hb dX6_meantBy_29 rfl (lv_at hl 0 rfl) ?_
            refine va_get (D := D) (ci := 6) (C := RX6) (T := TX6) (N := 6) hx hb hts in_X6 hown hK hP 0 rfl rfl 2 (by decide) fl_18 (fun _ h9 => h9) rfl dX6_meantBy_30 ?_
            refine lv_iload_n hx hb dX6_meantBy_33 rfl (lv_at hl 3 rfl) ?_
            refine ald_n hx hb hK hP 3 0 rfl rfl (show k < 60 by omega) (by decide) dX6_meantBy_34 ?_
            refine ro_V (n := 1) X hK (c_X6_isUp) gX6_meantBy_X6_isUp rfl (by decide +kernel) ⟨rfl, rfl⟩ ⟨Nat.le_of_ble_eq_true rfl, Nat.le_of_ble_eq_true rfl⟩ (hP.sub [0] rfl) (va_recv hK hP (ci := 6) (q0 := 0) rfl rfl) rfl hl.1 rfl (Nat.le_of_ble_eq_true rfl) dX6_meantBy_35 ⟨Nat.zero_le _, Nat.zero_le _⟩ ?_
            refine lv_if_eq (tgt := 45) hx hb dX6_meantBy_38 (by decide) (fun c_38 => ?_) (fun c_38 => ?_)
            · replace c_38 := bI_0.mp c_38
              refine lv_iconst (v := 0) hx hb dX6_meantBy_45 (by decide) ?_
              refine lv_istore (lv' := [(4, _), (0, _), (1, _), (2, _), (3, _)]) hx hb dX6_meantBy_46 hl (by decide) rfl (fun ls hl => ?_)
              refine lv_aload_n hx hb dX6_meantBy_48 rfl (lv_at hl 1 rfl) ?_
              refine va_get (D := D) (ci := 6) (C := RX6) (T := TX6) (N := 6) hx hb hts in_X6 hown hK hP 0 rfl rfl 1 (by decide) fl_15 (fun _ h9 => h9) rfl dX6_meantBy_49 ?_
              refine lv_iload_n hx hb dX6_meantBy_52 rfl (lv_at hl 4 rfl) ?_
              refine ald_n hx hb hK hP 2 0 rfl rfl (show k < 60 by omega) (by decide) dX6_meantBy_53 ?_
              refine lv_iload_n hx hb dX6_meantBy_54 rfl (lv_at hl 2 rfl) ?_
              refine lv_icmp_ne (tgt := 74) hx hb dX6_meantBy_55 (by decide) (fun c_55 => ?_) (fun c_55 => ?_)
              · refine lv_iinc (v := (_ : Int32) + 1) (lv' := [(3, _), (4, _), (0, _), (1, _), (2, _)]) hx hb dX6_meantBy_74 hl (k := 4) rfl rfl (by decide) rfl (fun ls hl => ?_)
                refine lv_goto (tgt := 4) hx hb dX6_meantBy_77 (by decide) ?_
                rw [nI_1] at hl
                exact ih (k + 1) _ (by omega) (by omega) (by rw [mbF, ← hv]; simp [c_9, c_15, c_25, c_38, c_55])  _ (lv_sub hl [2, 3, 4, 0] rfl)
              · refine lv_iload hx hb dX6_meantBy_58 (lv_at hl 0 rfl) ?_
                refine lv_if_eq (tgt := 74) hx hb dX6_meantBy_60 (by decide) (fun _ => ?_) (fun c_60 => absurd c_60 (by decide))
                refine lv_iinc (v := (_ : Int32) + 1) (lv' := [(3, _), (4, _), (0, _), (1, _), (2, _)]) hx hb dX6_meantBy_74 hl (k := 4) rfl rfl (by decide) rfl (fun ls hl => ?_)
                refine lv_goto (tgt := 4) hx hb dX6_meantBy_77 (by decide) ?_
                rw [nI_1] at hl
                exact ih (k + 1) _ (by omega) (by omega) (by rw [mbF, ← hv]; simp [c_9, c_15, c_25, c_38, c_55])  _ (lv_sub hl [2, 3, 4, 0] rfl)
            · replace c_38 := bI_n0.mp c_38
              refine lv_iconst (v := 1) hx hb dX6_meantBy_41 (by decide) ?_
              refine lv_goto (tgt := 46) hx hb dX6_meantBy_42 (by decide) ?_
              refine lv_istore (lv' := [(4, _), (0, _), (1, _), (2, _), (3, _)]) hx hb dX6_meantBy_46 hl (by decide) rfl (fun ls hl => ?_)
              refine lv_aload_n hx hb dX6_meantBy_48 rfl (lv_at hl 1 rfl) ?_
              refine va_get (D := D) (ci := 6) (C := RX6) (T := TX6) (N := 6) hx hb hts in_X6 hown hK hP 0 rfl rfl 1 (by decide) fl_15 (fun _ h9 => h9) rfl dX6_meantBy_49 ?_
              refine lv_iload_n hx hb dX6_meantBy_52 rfl (lv_at hl 4 rfl) ?_
              refine ald_n hx hb hK hP 2 0 rfl rfl (show k < 60 by omega) (by decide) dX6_meantBy_53 ?_
              refine lv_iload_n hx hb dX6_meantBy_54 rfl (lv_at hl 2 rfl) ?_
              refine lv_icmp_ne (tgt := 74) hx hb dX6_meantBy_55 (by decide) (fun c_55 => ?_) (fun c_55 => ?_)
              · refine lv_iinc (v := (_ : Int32) + 1) (lv' := [(3, _), (4, _), (0, _), (1, _), (2, _)]) hx hb dX6_meantBy_74 hl (k := 4) rfl rfl (by decide) rfl (fun ls hl => ?_)
                refine lv_goto (tgt := 4) hx hb dX6_meantBy_77 (by decide) ?_
                rw [nI_1] at hl
                exact ih (k + 1) _ (by omega) (by omega) (by rw [mbF, ← hv]; simp [c_9, c_15, c_25, c_38, c_55])  _ (lv_sub hl [2, 3, 4, 0] rfl)
              · refine lv_iload hx hb dX6_meantBy_58 (lv_at hl 0 rfl) ?_
                refine lv_if_eq (tgt := 74) hx hb dX6_meantBy_60 (by decide) (fun c_60 => absurd c_60 (by decide)) (fun _ => ?_)
                refine lv_iload_n hx hb dX6_meantBy_63 rfl (lv_at hl 3 rfl) ?_
                refine lv_iconst (v := 1) hx hb dX6_meantBy_64 (by decide) ?_
                refine lv_aload_n hx hb dX6_meantBy_65 rfl (lv_at hl 1 rfl) ?_
                refine va_get (D := D) (ci := 6) (C := RX6) (T := TX6) (N := 6) hx hb hts in_X6 hown hK hP 0 rfl rfl 0 (by decide) fl_9 (fun _ h9 => h9) rfl dX6_meantBy_66 ?_
                refine lv_iload_n hx hb dX6_meantBy_69 rfl (lv_at hl 4 rfl) ?_
                refine ald_n hx hb hK hP 1 0 rfl rfl (show k < 60 by omega) (by decide) dX6_meantBy_70 ?_
                refine lv_ishl hx hb dX6_meantBy_71 ?_
                refine lv_ior hx hb dX6_meantBy_72 ?_
                refine lv_istore_n (lv' := [(2, _), (4, _), (0, _), (1, _), (3, _)]) hx hb dX6_meantBy_73 rfl hl (by decide) rfl (fun ls hl => ?_)
                refine lv_iinc (v := (_ : Int32) + 1) (lv' := [(3, _), (2, _), (4, _), (0, _), (1, _)]) hx hb dX6_meantBy_74 hl (k := 4) rfl rfl (by decide) rfl (fun ls hl => ?_)
                refine lv_goto (tgt := 4) hx hb dX6_meantBy_77 (by decide) ?_
                rw [nI_1] at hl
                exact ih (k + 1) _ (by omega) (by omega) (by rw [mbF, ← hv]; simp [c_9, c_15, c_25, c_38, c_55])  _ (lv_sub hl [3, 4, 1, 0] rfl)
  exact loop_4 (mm + 1) 0 0 (by omega) (Nat.zero_le _) rfl  ls (lv_sub hl [2, 3, 1, 0] rfl)

set_option maxHeartbeats 1000000 in
set_option maxRecDepth 100000 in
theorem c_X7_has {l : Launch} {D : va_G} {cI cJ cW : ClassId} {k kx k1 k2 k3 k4 : Nat} {tn tm : Int32} {x : Int32}  : RO l yX7_has wsX7_has { frames := 0, cells := 0, slots := 0, locals := 0 } D (ty3 cI cJ cW) [.ref k, .int x] [(k, .inr (7, [.ref kx, .ref k1, .ref k2, .ref k3, .ref k4, .int tn, .int tm]))] (.int (bI (hasK tn x))) := by
  refine ro_of (cc := cX7_has) (maxL := 2) (ret := (some .boolean)) (by decide) rfl (Nat.le_of_ble_eq_true rfl) ?_
  intro pr en ss mi below meth cd X hP hK ls hl
  obtain ⟨hx, hb, hml, hown, hts, hr, hlocks⟩ := id X
  have fl_33 := hts (.fieldLink RX7 33 "WordTables$Tokens" "count" "I") (by decide +kernel)
  have in_X7 : ∀ w ∈ wsX70, w ∈ wsX7_has := by decide +kernel
  have hl : lv_has ls 2 [(0, .ref k), (1, .int x)] := hl
  refine lv_iload_n hx hb dX7_has_0 rfl (lv_at hl 1 rfl) ?_
  refine lv_if_lt (tgt := 22) hx hb dX7_has_1 (by decide) (fun c_1 => ?_) (fun c_1 => ?_)
  · refine lv_iconst (v := 0) hx hb dX7_has_22 (by decide) ?_
    exact ro_zret X (by simp [hasK, bI, c_1]) dX7_has_23
  · refine lv_iload_n hx hb dX7_has_4 rfl (lv_at hl 1 rfl) ?_
    refine lv_aload_n hx hb dX7_has_5 rfl (lv_at hl 0 rfl) ?_
    refine va_get (D := D) (ci := 7) (C := RX7) (T := TX7) (N := 7) hx hb hts in_X7 hown hK hP 0 rfl rfl 5 (by decide) fl_33 (fun _ h9 => h9) rfl dX7_has_6 ?_
    refine lv_icmp_ge (tgt := 22) hx hb dX7_has_9 (by decide) (fun c_9 => ?_) (fun c_9 => ?_)
    · refine lv_iconst (v := 0) hx hb dX7_has_22 (by decide) ?_
      exact ro_zret X (by simp [hasK, bI, c_1, c_9]) dX7_has_23
    · refine lv_iload_n hx hb dX7_has_12 rfl (lv_at hl 1 rfl) ?_
      refine lv_bipush (v := 24) hx hb dX7_has_13 (by decide) ?_
      refine lv_icmp_ge (tgt := 22) hx hb dX7_has_15 (by decide) (fun c_15 => ?_) (fun c_15 => ?_)
      · refine lv_iconst (v := 0) hx hb dX7_has_22 (by decide) ?_
        exact ro_zret X (by simp [hasK, bI, c_1, c_9, c_15]) dX7_has_23
      · refine lv_iconst (v := 1) hx hb dX7_has_18 (by decide) ?_
        refine lv_goto (tgt := 23) hx hb dX7_has_19 (by decide) ?_
        exact ro_zret X (by simp [hasK, bI, c_1, c_9, c_15]) dX7_has_23

set_option maxHeartbeats 1000000 in
set_option maxRecDepth 100000 in
theorem c_X7_startOn {l : Launch} {D : va_G} {cI cJ cW : ClassId} {sz : Nat} {k kx k1 k2 k3 k4 : Nat} {tn tm : Int32} {xb o ob ln oN : Nat} {xn : Int32} {xf g : Nat → Int32} (hoN : oN < 2 ^ 31) (h1 : ln ≤ 80) (h2 : ln ≤ oN) : MU l yX7_startOn wsX7_startOn { frames := 2, cells := 0, slots := 0, locals := 43 } D (ty3 cI cJ cW) [.ref k, .ref o] [(k, .inr (7, [.ref kx, .ref k1, .ref k2, .ref k3, .ref k4, .int tn, .int tm])), (kx, .inr (4, [.ref xb, .int xn])), (xb, .inl (cI, 80, .inl xf)), (o, .inr (4, [.ref ob, .int (nI ln)])), (ob, .inl (cI, oN, .inl g))] sz none [(k, .inr (7, [.ref kx, .ref k1, .ref k2, .ref k3, .ref k4, .int 0, .int 0])), (kx, .inr (4, [.ref xb, .int (nI ln)])), (xb, .inl (cI, 80, .inl (cpF xf g ln))), (o, .inr (4, [.ref ob, .int (nI ln)])), (ob, .inl (cI, oN, .inl g))] := by
  refine mu_of (cc := cX7_startOn) (maxL := 2) (ret := none) (by decide) rfl (Nat.le_of_ble_eq_true rfl) ?_
  intro pr en ss mi below meth cd X hK A hA hP hD hS ls hl
  obtain ⟨hx, hb, hml, hown, hts, hr, hlocks⟩ := id X
  have fl_14 := hts (.fieldLink RX7 14 "WordTables$Tokens" "text" "LWordTables$Row;") (by decide +kernel)
  have fl_33 := hts (.fieldLink RX7 33 "WordTables$Tokens" "count" "I") (by decide +kernel)
  have fl_41 := hts (.fieldLink RX7 41 "WordTables$Tokens" "tooMany" "Z") (by decide +kernel)
  have in_X7 : ∀ w ∈ wsX70, w ∈ wsX7_startOn := by decide +kernel
  have hl : lv_has ls 2 [(0, .ref k), (1, .ref o)] := hl
  refine lv_aload_n hx hb dX7_startOn_0 rfl (lv_at hl 0 rfl) ?_
  refine va_get (D := D) (ci := 7) (C := RX7) (T := TX7) (N := 7) hx hb hts in_X7 hown hK hP 0 rfl rfl 0 (by decide) fl_14 (fun _ h9 => h9) rfl dX7_startOn_1 ?_
  refine lv_aload_n hx hb dX7_startOn_4 rfl (lv_at hl 1 rfl) ?_
  refine mu_V (n := 1) X hK (c_X4_copyFrom (by decide) hoN h1 h2) gX7_startOn_X4_copyFrom rfl (by decide +kernel) ⟨rfl, rfl⟩ ⟨Nat.le_of_ble_eq_true rfl, Nat.le_of_ble_eq_true rfl⟩ [1, 2, 3, 4] rfl rfl rfl rfl hA hP hD hS (va_recv hK hP (ci := 4) (q0 := 1) rfl rfl) rfl hl.1 rfl (Nat.le_of_ble_eq_true rfl) dX7_startOn_5 ⟨Nat.zero_le _, Nat.zero_le _⟩ (fun H locs hP hD hS => ?_)
  have hP : va_P D vwCl [(k, .inr (7, [.ref kx, .ref k1, .ref k2, .ref k3, .ref k4, _, _])), (kx, .inr (4, [.ref xb, _])), (xb, .inl (cI, 80, .inl _)), (o, .inr (4, [.ref ob, _])), (ob, .inl (cI, oN, .inl _))] H := hP
  have hD : va_D A [(k, .inr (7, [.ref kx, .ref k1, .ref k2, .ref k3, .ref k4, _, _])), (kx, .inr (4, [.ref xb, _])), (xb, .inl (cI, 80, .inl _)), (o, .inr (4, [.ref ob, _])), (ob, .inl (cI, oN, .inl _))] := hD
  refine lv_aload_n hx hb dX7_startOn_8 rfl (lv_at hl 0 rfl) ?_
  refine lv_iconst (v := 0) hx hb dX7_startOn_9 (by decide) ?_
  refine va_put (D := D) (ci := 7) (ty := .int) (C := RX7) (T := TX7) (N := 7) hx hb hts in_X7 tyX7 tyX7_ok nmX7 hown hK hP hD hS 0 rfl rfl 5 (by decide) fl_33 (fun _ h9 => h9) rfl (by decide +kernel) rfl rfl (Nat.le_of_ble_eq_true rfl) dX7_startOn_10 (fun H locs hP hD hS => ?_)
  have hP : va_P D vwCl [(k, .inr (7, [.ref kx, .ref k1, .ref k2, .ref k3, .ref k4, _, _])), (kx, .inr (4, [.ref xb, _])), (xb, .inl (cI, 80, .inl _)), (o, .inr (4, [.ref ob, _])), (ob, .inl (cI, oN, .inl _))] H := hP
  have hD : va_D A [(k, .inr (7, [.ref kx, .ref k1, .ref k2, .ref k3, .ref k4, _, _])), (kx, .inr (4, [.ref xb, _])), (xb, .inl (cI, 80, .inl _)), (o, .inr (4, [.ref ob, _])), (ob, .inl (cI, oN, .inl _))] := hD
  refine lv_aload_n hx hb dX7_startOn_13 rfl (lv_at hl 0 rfl) ?_
  refine lv_iconst (v := 0) hx hb dX7_startOn_14 (by decide) ?_
  refine va_put (D := D) (ci := 7) (ty := .boolean) (C := RX7) (T := TX7) (N := 7) hx hb hts in_X7 tyX7 tyX7_ok nmX7 hown hK hP hD hS 0 rfl rfl 6 (by decide) fl_41 (fun _ h9 => h9) rfl (by decide +kernel) (by first | rfl | exact bI_nar _) (by first | rfl | exact bI_fit _) (Nat.le_of_ble_eq_true rfl) dX7_startOn_15 (fun H locs hP hD hS => ?_)
  have hP : va_P D vwCl [(k, .inr (7, [.ref kx, .ref k1, .ref k2, .ref k3, .ref k4, _, _])), (kx, .inr (4, [.ref xb, _])), (xb, .inl (cI, 80, .inl _)), (o, .inr (4, [.ref ob, _])), (ob, .inl (cI, oN, .inl _))] H := hP
  have hD : va_D A [(k, .inr (7, [.ref kx, .ref k1, .ref k2, .ref k3, .ref k4, _, _])), (kx, .inr (4, [.ref xb, _])), (xb, .inl (cI, 80, .inl _)), (o, .inr (4, [.ref ob, _])), (ob, .inl (cI, oN, .inl _))] := hD
  exact mu_vret X hP hS (rfl) dX7_startOn_18

set_option maxHeartbeats 1000000 in
set_option maxRecDepth 100000 in
theorem c_X7_add {l : Launch} {D : va_G} {cI cJ cW : ClassId} {sz : Nat} {k kx k1 k2 k3 k4 tc : Nat} {tm : Int32} {t1 t2 t3 t4 : Nat → Int32} {x1 x2 x3 x4 : Int32} (htc : tc ≤ 24) : MU l yX7_add wsX7_add { frames := 0, cells := 0, slots := 0, locals := 0 } D (ty3 cI cJ cW) [.ref k, .int x1, .int x2, .int x3, .int x4] [(k, .inr (7, [.ref kx, .ref k1, .ref k2, .ref k3, .ref k4, .int (nI tc), .int tm])), (k1, .inl (cI, 24, .inl t1)), (k2, .inl (cI, 24, .inl t2)), (k3, .inl (cI, 24, .inl t3)), (k4, .inl (cI, 24, .inl t4))] sz none [(k, .inr (7, [.ref kx, .ref k1, .ref k2, .ref k3, .ref k4, .int (nI (adN tc)), .int (adM tc tm)])), (k1, .inl (cI, 24, .inl (adF t1 tc x1))), (k2, .inl (cI, 24, .inl (adF t2 tc x2))), (k3, .inl (cI, 24, .inl (adF t3 tc x3))), (k4, .inl (cI, 24, .inl (adF t4 tc x4)))] := by
  refine mu_of (cc := cX7_add) (maxL := 5) (ret := none) (by decide) rfl (Nat.le_of_ble_eq_true rfl) ?_
  intro pr en ss mi below meth cd X hK A hA hP hD hS ls hl
  obtain ⟨hx, hb, hml, hown, hts, hr, hlocks⟩ := id X
  have fl_20 := hts (.fieldLink RX7 20 "WordTables$Tokens" "sorts" "[I") (by decide +kernel)
  have fl_24 := hts (.fieldLink RX7 24 "WordTables$Tokens" "places" "[I") (by decide +kernel)
  have fl_27 := hts (.fieldLink RX7 27 "WordTables$Tokens" "lengths" "[I") (by decide +kernel)
  have fl_30 := hts (.fieldLink RX7 30 "WordTables$Tokens" "numbers" "[I") (by decide +kernel)
  have fl_33 := hts (.fieldLink RX7 33 "WordTables$Tokens" "count" "I") (by decide +kernel)
  have fl_41 := hts (.fieldLink RX7 41 "WordTables$Tokens" "tooMany" "Z") (by decide +kernel)
  have in_X7 : ∀ w ∈ wsX70, w ∈ wsX7_add := by decide +kernel
  have hl : lv_has ls 5 [(0, .ref k), (1, .int x1), (2, .int x2), (3, .int x3), (4, .int x4)] := hl
  refine lv_aload_n hx hb dX7_add_0 rfl (lv_at hl 0 rfl) ?_
  refine va_get (D := D) (ci := 7) (C := RX7) (T := TX7) (N := 7) hx hb hts in_X7 hown hK hP 0 rfl rfl 5 (by decide) fl_33 (fun _ h9 => h9) rfl dX7_add_1 ?_
  refine lv_if_lt (tgt := 16) hx hb dX7_add_4 (by decide) (fun c_4 => ?_) (fun c_4 => ?_)
  · have hm : ¬ tc < 24 := by first | exact absurd c_4 (nI_pos (by omega)) | exact fun q => c_13 ((nI_ltI (by omega) (by decide)).mpr q)
    refine lv_aload_n hx hb dX7_add_16 rfl (lv_at hl 0 rfl) ?_
    refine lv_iconst (v := 1) hx hb dX7_add_17 (by decide) ?_
    refine va_put (D := D) (ci := 7) (ty := .boolean) (C := RX7) (T := TX7) (N := 7) hx hb hts in_X7 tyX7 tyX7_ok nmX7 hown hK hP hD hS 0 rfl rfl 6 (by decide) fl_41 (fun _ h9 => h9) rfl (by decide +kernel) (by first | rfl | exact bI_nar _) (by first | rfl | exact bI_fit _) (Nat.le_of_ble_eq_true rfl) dX7_add_18 (fun H locs hP hD hS => ?_)
    have hP : va_P D vwCl [(k, .inr (7, [.ref kx, .ref k1, .ref k2, .ref k3, .ref k4, _, _])), (k1, .inl (cI, 24, .inl _)), (k2, .inl (cI, 24, .inl _)), (k3, .inl (cI, 24, .inl _)), (k4, .inl (cI, 24, .inl _))] H := hP
    have hD : va_D A [(k, .inr (7, [.ref kx, .ref k1, .ref k2, .ref k3, .ref k4, _, _])), (k1, .inl (cI, 24, .inl _)), (k2, .inl (cI, 24, .inl _)), (k3, .inl (cI, 24, .inl _)), (k4, .inl (cI, 24, .inl _))] := hD
    exact mu_vret X hP hS (by simp [adN, adF, adM, hm, nI_1]) dX7_add_21
  · refine lv_aload_n hx hb dX7_add_7 rfl (lv_at hl 0 rfl) ?_
    refine va_get (D := D) (ci := 7) (C := RX7) (T := TX7) (N := 7) hx hb hts in_X7 hown hK hP 0 rfl rfl 5 (by decide) fl_33 (fun _ h9 => h9) rfl dX7_add_8 ?_
    refine lv_bipush (v := 24) hx hb dX7_add_11 (by decide) ?_
    refine lv_icmp_lt (tgt := 22) hx hb dX7_add_13 (by decide) (fun c_13 => ?_) (fun c_13 => ?_)
    · have hm : tc < 24 := (nI_ltI (by omega) (by decide)).mp c_13
      refine lv_aload_n hx hb dX7_add_22 rfl (lv_at hl 0 rfl) ?_
      refine va_get (D := D) (ci := 7) (C := RX7) (T := TX7) (N := 7) hx hb hts in_X7 hown hK hP 0 rfl rfl 1 (by decide) fl_20 (fun _ h9 => h9) rfl dX7_add_23 ?_
      refine lv_aload_n hx hb dX7_add_26 rfl (lv_at hl 0 rfl) ?_
      refine va_get (D := D) (ci := 7) (C := RX7) (T := TX7) (N := 7) hx hb hts in_X7 hown hK hP 0 rfl rfl 5 (by decide) fl_33 (fun _ h9 => h9) rfl dX7_add_27 ?_
      refine lv_iload_n hx hb dX7_add_30 rfl (lv_at hl 1 rfl) ?_
      refine ast_n hx hb hK hP hD hS 1 0 rfl rfl hm (by decide) dX7_add_31 (fun H locs hP hD hS => ?_)
      have hP : va_P D vwCl [(k, .inr (7, [.ref kx, .ref k1, .ref k2, .ref k3, .ref k4, _, _])), (k1, .inl (cI, 24, .inl _)), (k2, .inl (cI, 24, .inl _)), (k3, .inl (cI, 24, .inl _)), (k4, .inl (cI, 24, .inl _))] H := hP
      have hD : va_D A [(k, .inr (7, [.ref kx, .ref k1, .ref k2, .ref k3, .ref k4, _, _])), (k1, .inl (cI, 24, .inl _)), (k2, .inl (cI, 24, .inl _)), (k3, .inl (cI, 24, .inl _)), (k4, .inl (cI, 24, .inl _))] := hD
      refine lv_aload_n hx hb dX7_add_32 rfl (lv_at hl 0 rfl) ?_
      refine va_get (D := D) (ci := 7) (C := RX7) (T := TX7) (N := 7) hx hb hts in_X7 hown hK hP 0 rfl rfl 2 (by decide) fl_24 (fun _ h9 => h9) rfl dX7_add_33 ?_
      refine lv_aload_n hx hb dX7_add_36 rfl (lv_at hl 0 rfl) ?_
      refine va_get (D := D) (ci := 7) (C := RX7) (T := TX7) (N := 7) hx hb hts in_X7 hown hK hP 0 rfl rfl 5 (by decide) fl_33 (fun _ h9 => h9) rfl dX7_add_37 ?_
      refine lv_iload_n hx hb dX7_add_40 rfl (lv_at hl 2 rfl) ?_
      refine ast_n hx hb hK hP hD hS 2 0 rfl rfl hm (by decide) dX7_add_41 (fun H locs hP hD hS => ?_)
      have hP : va_P D vwCl [(k, .inr (7, [.ref kx, .ref k1, .ref k2, .ref k3, .ref k4, _, _])), (k1, .inl (cI, 24, .inl _)), (k2, .inl (cI, 24, .inl _)), (k3, .inl (cI, 24, .inl _)), (k4, .inl (cI, 24, .inl _))] H := hP
      have hD : va_D A [(k, .inr (7, [.ref kx, .ref k1, .ref k2, .ref k3, .ref k4, _, _])), (k1, .inl (cI, 24, .inl _)), (k2, .inl (cI, 24, .inl _)), (k3, .inl (cI, 24, .inl _)), (k4, .inl (cI, 24, .inl _))] := hD
      refine lv_aload_n hx hb dX7_add_42 rfl (lv_at hl 0 rfl) ?_
      refine va_get (D := D) (ci := 7) (C := RX7) (T := TX7) (N := 7) hx hb hts in_X7 hown hK hP 0 rfl rfl 3 (by decide) fl_27 (fun _ h9 => h9) rfl dX7_add_43 ?_
      refine lv_aload_n hx hb dX7_add_46 rfl (lv_at hl 0 rfl) ?_
      refine va_get (D := D) (ci := 7) (C := RX7) (T := TX7) (N := 7) hx hb hts in_X7 hown hK hP 0 rfl rfl 5 (by decide) fl_33 (fun _ h9 => h9) rfl dX7_add_47 ?_
      refine lv_iload_n hx hb dX7_add_50 rfl (lv_at hl 3 rfl) ?_
      refine ast_n hx hb hK hP hD hS 3 0 rfl rfl hm (by decide) dX7_add_51 (fun H locs hP hD hS => ?_)
      have hP : va_P D vwCl [(k, .inr (7, [.ref kx, .ref k1, .ref k2, .ref k3, .ref k4, _, _])), (k1, .inl (cI, 24, .inl _)), (k2, .inl (cI, 24, .inl _)), (k3, .inl (cI, 24, .inl _)), (k4, .inl (cI, 24, .inl _))] H := hP
      have hD : va_D A [(k, .inr (7, [.ref kx, .ref k1, .ref k2, .ref k3, .ref k4, _, _])), (k1, .inl (cI, 24, .inl _)), (k2, .inl (cI, 24, .inl _)), (k3, .inl (cI, 24, .inl _)), (k4, .inl (cI, 24, .inl _))] := hD
      refine lv_aload_n hx hb dX7_add_52 rfl (lv_at hl 0 rfl) ?_
      refine va_get (D := D) (ci := 7) (C := RX7) (T := TX7) (N := 7) hx hb hts in_X7 hown hK hP 0 rfl rfl 4 (by decide) fl_30 (fun _ h9 => h9) rfl dX7_add_53 ?_
      refine lv_aload_n hx hb dX7_add_56 rfl (lv_at hl 0 rfl) ?_
      refine va_get (D := D) (ci := 7) (C := RX7) (T := TX7) (N := 7) hx hb hts in_X7 hown hK hP 0 rfl rfl 5 (by decide) fl_33 (fun _ h9 => h9) rfl dX7_add_57 ?_
      refine lv_iload hx hb dX7_add_60 (lv_at hl 4 rfl) ?_
      refine ast_n hx hb hK hP hD hS 4 0 rfl rfl hm (by decide) dX7_add_62 (fun H locs hP hD hS => ?_)
      have hP : va_P D vwCl [(k, .inr (7, [.ref kx, .ref k1, .ref k2, .ref k3, .ref k4, _, _])), (k1, .inl (cI, 24, .inl _)), (k2, .inl (cI, 24, .inl _)), (k3, .inl (cI, 24, .inl _)), (k4, .inl (cI, 24, .inl _))] H := hP
      have hD : va_D A [(k, .inr (7, [.ref kx, .ref k1, .ref k2, .ref k3, .ref k4, _, _])), (k1, .inl (cI, 24, .inl _)), (k2, .inl (cI, 24, .inl _)), (k3, .inl (cI, 24, .inl _)), (k4, .inl (cI, 24, .inl _))] := hD
      refine lv_aload_n hx hb dX7_add_63 rfl (lv_at hl 0 rfl) ?_
      refine lv_dup hx hb dX7_add_64 rfl ?_
      refine va_get (D := D) (ci := 7) (C := RX7) (T := TX7) (N := 7) hx hb hts in_X7 hown hK hP 0 rfl rfl 5 (by decide) fl_33 (fun _ h9 => h9) rfl dX7_add_65 ?_
      refine lv_iconst (v := 1) hx hb dX7_add_68 (by decide) ?_
      refine lv_iadd hx hb dX7_add_69 ?_
      refine va_put (D := D) (ci := 7) (ty := .int) (C := RX7) (T := TX7) (N := 7) hx hb hts in_X7 tyX7 tyX7_ok nmX7 hown hK hP hD hS 0 rfl rfl 5 (by decide) fl_33 (fun _ h9 => h9) rfl (by decide +kernel) rfl rfl (Nat.le_of_ble_eq_true rfl) dX7_add_70 (fun H locs hP hD hS => ?_)
      have hP : va_P D vwCl [(k, .inr (7, [.ref kx, .ref k1, .ref k2, .ref k3, .ref k4, _, _])), (k1, .inl (cI, 24, .inl _)), (k2, .inl (cI, 24, .inl _)), (k3, .inl (cI, 24, .inl _)), (k4, .inl (cI, 24, .inl _))] H := hP
      have hD : va_D A [(k, .inr (7, [.ref kx, .ref k1, .ref k2, .ref k3, .ref k4, _, _])), (k1, .inl (cI, 24, .inl _)), (k2, .inl (cI, 24, .inl _)), (k3, .inl (cI, 24, .inl _)), (k4, .inl (cI, 24, .inl _))] := hD
      exact mu_vret X hP hS (by simp [adN, adF, adM, hm, nI_1]) dX7_add_73
    · have hm : ¬ tc < 24 := by first | exact absurd c_4 (nI_pos (by omega)) | exact fun q => c_13 ((nI_ltI (by omega) (by decide)).mpr q)
      refine lv_aload_n hx hb dX7_add_16 rfl (lv_at hl 0 rfl) ?_
      refine lv_iconst (v := 1) hx hb dX7_add_17 (by decide) ?_
      refine va_put (D := D) (ci := 7) (ty := .boolean) (C := RX7) (T := TX7) (N := 7) hx hb hts in_X7 tyX7 tyX7_ok nmX7 hown hK hP hD hS 0 rfl rfl 6 (by decide) fl_41 (fun _ h9 => h9) rfl (by decide +kernel) (by first | rfl | exact bI_nar _) (by first | rfl | exact bI_fit _) (Nat.le_of_ble_eq_true rfl) dX7_add_18 (fun H locs hP hD hS => ?_)
      have hP : va_P D vwCl [(k, .inr (7, [.ref kx, .ref k1, .ref k2, .ref k3, .ref k4, _, _])), (k1, .inl (cI, 24, .inl _)), (k2, .inl (cI, 24, .inl _)), (k3, .inl (cI, 24, .inl _)), (k4, .inl (cI, 24, .inl _))] H := hP
      have hD : va_D A [(k, .inr (7, [.ref kx, .ref k1, .ref k2, .ref k3, .ref k4, _, _])), (k1, .inl (cI, 24, .inl _)), (k2, .inl (cI, 24, .inl _)), (k3, .inl (cI, 24, .inl _)), (k4, .inl (cI, 24, .inl _))] := hD
      exact mu_vret X hP hS (by simp [adN, adF, adM, hm, nI_1]) dX7_add_21

set_option maxHeartbeats 1000000 in
set_option maxRecDepth 100000 in
theorem c_X5_clear {l : Launch} {D : va_G} {cI cJ cW : ClassId} {sz : Nat} {u : Nat} {sr sp sl : Int32}  : MU l yX5_clear wsX5_clear { frames := 0, cells := 0, slots := 0, locals := 0 } D (ty3 cI cJ cW) [.ref u] [(u, .inr (5, [.int sr, .int sp, .int sl]))] sz none [(u, .inr (5, [.int 0, .int 0, .int 0]))] := by
  refine mu_of (cc := cX5_clear) (maxL := 1) (ret := none) (by decide) rfl (Nat.le_of_ble_eq_true rfl) ?_
  intro pr en ss mi below meth cd X hK A hA hP hD hS ls hl
  obtain ⟨hx, hb, hml, hown, hts, hr, hlocks⟩ := id X
  have fl_13 := hts (.fieldLink RX5 13 "WordTables$Sum" "part" "I") (by decide +kernel)
  have fl_16 := hts (.fieldLink RX5 16 "WordTables$Sum" "length" "I") (by decide +kernel)
  have fl_7 := hts (.fieldLink RX5 7 "WordTables$Sum" "rest" "I") (by decide +kernel)
  have in_X5 : ∀ w ∈ wsX50, w ∈ wsX5_clear := by decide +kernel
  have hl : lv_has ls 1 [(0, .ref u)] := hl
  refine lv_aload_n hx hb dX5_clear_0 rfl (lv_at hl 0 rfl) ?_
  refine lv_iconst (v := 0) hx hb dX5_clear_1 (by decide) ?_
  refine va_put (D := D) (ci := 5) (ty := .int) (C := RX5) (T := TX5) (N := 3) hx hb hts in_X5 tyX5 tyX5_ok nmX5 hown hK hP hD hS 0 rfl rfl 0 (by decide) fl_7 (fun _ h9 => h9) rfl (by decide +kernel) rfl rfl (Nat.le_of_ble_eq_true rfl) dX5_clear_2 (fun H locs hP hD hS => ?_)
  have hP : va_P D vwCl [(u, .inr (5, [_, _, _]))] H := hP
  have hD : va_D A [(u, .inr (5, [_, _, _]))] := hD
  refine lv_aload_n hx hb dX5_clear_5 rfl (lv_at hl 0 rfl) ?_
  refine lv_iconst (v := 0) hx hb dX5_clear_6 (by decide) ?_
  refine va_put (D := D) (ci := 5) (ty := .int) (C := RX5) (T := TX5) (N := 3) hx hb hts in_X5 tyX5 tyX5_ok nmX5 hown hK hP hD hS 0 rfl rfl 1 (by decide) fl_13 (fun _ h9 => h9) rfl (by decide +kernel) rfl rfl (Nat.le_of_ble_eq_true rfl) dX5_clear_7 (fun H locs hP hD hS => ?_)
  have hP : va_P D vwCl [(u, .inr (5, [_, _, _]))] H := hP
  have hD : va_D A [(u, .inr (5, [_, _, _]))] := hD
  refine lv_aload_n hx hb dX5_clear_10 rfl (lv_at hl 0 rfl) ?_
  refine lv_iconst (v := 0) hx hb dX5_clear_11 (by decide) ?_
  refine va_put (D := D) (ci := 5) (ty := .int) (C := RX5) (T := TX5) (N := 3) hx hb hts in_X5 tyX5 tyX5_ok nmX5 hown hK hP hD hS 0 rfl rfl 2 (by decide) fl_16 (fun _ h9 => h9) rfl (by decide +kernel) rfl rfl (Nat.le_of_ble_eq_true rfl) dX5_clear_12 (fun H locs hP hD hS => ?_)
  have hP : va_P D vwCl [(u, .inr (5, [_, _, _]))] H := hP
  have hD : va_D A [(u, .inr (5, [_, _, _]))] := hD
  exact mu_vret X hP hS (rfl) dX5_clear_15

set_option maxHeartbeats 1000000 in
set_option maxRecDepth 100000 in
theorem c_X5_begin {l : Launch} {D : va_G} {cI cJ cW : ClassId} {sz : Nat} {u : Nat} {sr sp sl : Int32} {v : Int32}  : MU l yX5_begin wsX5_begin { frames := 0, cells := 0, slots := 0, locals := 0 } D (ty3 cI cJ cW) [.ref u, .int v] [(u, .inr (5, [.int sr, .int sp, .int sl]))] sz none [(u, .inr (5, [.int 0, .int v, .int 1]))] := by
  refine mu_of (cc := cX5_begin) (maxL := 2) (ret := none) (by decide) rfl (Nat.le_of_ble_eq_true rfl) ?_
  intro pr en ss mi below meth cd X hK A hA hP hD hS ls hl
  obtain ⟨hx, hb, hml, hown, hts, hr, hlocks⟩ := id X
  have fl_13 := hts (.fieldLink RX5 13 "WordTables$Sum" "part" "I") (by decide +kernel)
  have fl_16 := hts (.fieldLink RX5 16 "WordTables$Sum" "length" "I") (by decide +kernel)
  have fl_7 := hts (.fieldLink RX5 7 "WordTables$Sum" "rest" "I") (by decide +kernel)
  have in_X5 : ∀ w ∈ wsX50, w ∈ wsX5_begin := by decide +kernel
  have hl : lv_has ls 2 [(0, .ref u), (1, .int v)] := hl
  refine lv_aload_n hx hb dX5_begin_0 rfl (lv_at hl 0 rfl) ?_
  refine lv_iconst (v := 0) hx hb dX5_begin_1 (by decide) ?_
  refine va_put (D := D) (ci := 5) (ty := .int) (C := RX5) (T := TX5) (N := 3) hx hb hts in_X5 tyX5 tyX5_ok nmX5 hown hK hP hD hS 0 rfl rfl 0 (by decide) fl_7 (fun _ h9 => h9) rfl (by decide +kernel) rfl rfl (Nat.le_of_ble_eq_true rfl) dX5_begin_2 (fun H locs hP hD hS => ?_)
  have hP : va_P D vwCl [(u, .inr (5, [_, _, _]))] H := hP
  have hD : va_D A [(u, .inr (5, [_, _, _]))] := hD
  refine lv_aload_n hx hb dX5_begin_5 rfl (lv_at hl 0 rfl) ?_
  refine lv_iload_n hx hb dX5_begin_6 rfl (lv_at hl 1 rfl) ?_
  refine va_put (D := D) (ci := 5) (ty := .int) (C := RX5) (T := TX5) (N := 3) hx hb hts in_X5 tyX5 tyX5_ok nmX5 hown hK hP hD hS 0 rfl rfl 1 (by decide) fl_13 (fun _ h9 => h9) rfl (by decide +kernel) rfl rfl (Nat.le_of_ble_eq_true rfl) dX5_begin_7 (fun H locs hP hD hS => ?_)
  have hP : va_P D vwCl [(u, .inr (5, [_, _, _]))] H := hP
  have hD : va_D A [(u, .inr (5, [_, _, _]))] := hD
  refine lv_aload_n hx hb dX5_begin_10 rfl (lv_at hl 0 rfl) ?_
  refine lv_iconst (v := 1) hx hb dX5_begin_11 (by decide) ?_
  refine va_put (D := D) (ci := 5) (ty := .int) (C := RX5) (T := TX5) (N := 3) hx hb hts in_X5 tyX5 tyX5_ok nmX5 hown hK hP hD hS 0 rfl rfl 2 (by decide) fl_16 (fun _ h9 => h9) rfl (by decide +kernel) rfl rfl (Nat.le_of_ble_eq_true rfl) dX5_begin_12 (fun H locs hP hD hS => ?_)
  have hP : va_P D vwCl [(u, .inr (5, [_, _, _]))] H := hP
  have hD : va_D A [(u, .inr (5, [_, _, _]))] := hD
  exact mu_vret X hP hS (rfl) dX5_begin_15

set_option maxHeartbeats 1000000 in
set_option maxRecDepth 100000 in
theorem c_X5_fitsBelowHundred {l : Launch} {D : va_G} {cI cJ cW : ClassId} {u : Nat} {sr sp sl : Int32} {v : Int32}  : RO l yX5_fitsBelowHundred wsX5_fitsBelowHundred { frames := 0, cells := 0, slots := 0, locals := 0 } D (ty3 cI cJ cW) [.ref u, .int v] [(u, .inr (5, [.int sr, .int sp, .int sl]))] (.int (bI (fbh sr sp v))) := by
  refine ro_of (cc := cX5_fitsBelowHundred) (maxL := 3) (ret := (some .boolean)) (by decide) rfl (Nat.le_of_ble_eq_true rfl) ?_
  intro pr en ss mi below meth cd X hP hK ls hl
  obtain ⟨hx, hb, hml, hown, hts, hr, hlocks⟩ := id X
  have fl_13 := hts (.fieldLink RX5 13 "WordTables$Sum" "part" "I") (by decide +kernel)
  have fl_7 := hts (.fieldLink RX5 7 "WordTables$Sum" "rest" "I") (by decide +kernel)
  have in_X5 : ∀ w ∈ wsX50, w ∈ wsX5_fitsBelowHundred := by decide +kernel
  have hl : lv_has ls 3 [(0, .ref u), (1, .int v)] := hl
  refine lv_aload_n hx hb dX5_fitsBelowHundred_0 rfl (lv_at hl 0 rfl) ?_
  refine va_get (D := D) (ci := 5) (C := RX5) (T := TX5) (N := 3) hx hb hts in_X5 hown hK hP 0 rfl rfl 1 (by decide) fl_13 (fun _ h9 => h9) rfl dX5_fitsBelowHundred_1 ?_
  refine lv_if_le (tgt := 25) hx hb dX5_fitsBelowHundred_4 (by decide) (fun c_4 => ?_) (fun c_4 => ?_)
  · refine lv_aload_n hx hb dX5_fitsBelowHundred_25 rfl (lv_at hl 0 rfl) ?_
    refine va_get (D := D) (ci := 5) (C := RX5) (T := TX5) (N := 3) hx hb hts in_X5 hown hK hP 0 rfl rfl 1 (by decide) fl_13 (fun _ h9 => h9) rfl dX5_fitsBelowHundred_26 ?_
    refine lv_if_ne (tgt := 43) hx hb dX5_fitsBelowHundred_29 (by decide) (fun c_29 => ?_) (fun c_29 => ?_)
    · refine lv_iconst (v := 0) hx hb dX5_fitsBelowHundred_43 (by decide) ?_
      refine lv_istore_n (lv' := [(2, _), (0, _), (1, _)]) hx hb dX5_fitsBelowHundred_44 rfl hl (by decide) rfl (fun ls hl => ?_)
      refine lv_iload_n hx hb dX5_fitsBelowHundred_45 rfl (lv_at hl 2 rfl) ?_
      refine lv_iconst (v := 1) hx hb dX5_fitsBelowHundred_46 (by decide) ?_
      refine lv_icmp_lt (tgt := 64) hx hb dX5_fitsBelowHundred_47 (by decide) (fun c_47 => ?_) (fun c_47 => ?_)
      · refine lv_iconst (v := 0) hx hb dX5_fitsBelowHundred_64 (by decide) ?_
        exact ro_zret X (by simp [fbh, bI, c_4, c_29, c_47]) dX5_fitsBelowHundred_65
      · refine lv_iload_n hx hb dX5_fitsBelowHundred_50 rfl (lv_at hl 2 rfl) ?_
        refine lv_bipush (v := 99) hx hb dX5_fitsBelowHundred_51 (by decide) ?_
        refine lv_icmp_gt (tgt := 64) hx hb dX5_fitsBelowHundred_53 (by decide) (fun c_53 => ?_) (fun c_53 => ?_)
        · refine lv_iconst (v := 0) hx hb dX5_fitsBelowHundred_64 (by decide) ?_
          exact ro_zret X (by simp [fbh, bI, c_4, c_29, c_47, c_53]) dX5_fitsBelowHundred_65
        · refine lv_iload_n hx hb dX5_fitsBelowHundred_56 rfl (lv_at hl 0 rfl) ?_
          refine lv_if_eq (tgt := 64) hx hb dX5_fitsBelowHundred_57 (by decide) (fun _ => ?_) (fun c_57 => absurd c_57 (by decide))
          refine lv_iconst (v := 0) hx hb dX5_fitsBelowHundred_64 (by decide) ?_
          exact ro_zret X (by simp [fbh, bI, c_4, c_29, c_47, c_53]) dX5_fitsBelowHundred_65
    · refine lv_aload_n hx hb dX5_fitsBelowHundred_32 rfl (lv_at hl 0 rfl) ?_
      refine va_get (D := D) (ci := 5) (C := RX5) (T := TX5) (N := 3) hx hb hts in_X5 hown hK hP 0 rfl rfl 0 (by decide) fl_7 (fun _ h9 => h9) rfl dX5_fitsBelowHundred_33 ?_
      refine lv_if_eq (tgt := 43) hx hb dX5_fitsBelowHundred_36 (by decide) (fun c_36 => ?_) (fun c_36 => ?_)
      · refine lv_iconst (v := 0) hx hb dX5_fitsBelowHundred_43 (by decide) ?_
        refine lv_istore_n (lv' := [(2, _), (0, _), (1, _)]) hx hb dX5_fitsBelowHundred_44 rfl hl (by decide) rfl (fun ls hl => ?_)
        refine lv_iload_n hx hb dX5_fitsBelowHundred_45 rfl (lv_at hl 2 rfl) ?_
        refine lv_iconst (v := 1) hx hb dX5_fitsBelowHundred_46 (by decide) ?_
        refine lv_icmp_lt (tgt := 64) hx hb dX5_fitsBelowHundred_47 (by decide) (fun c_47 => ?_) (fun c_47 => ?_)
        · refine lv_iconst (v := 0) hx hb dX5_fitsBelowHundred_64 (by decide) ?_
          exact ro_zret X (by simp [fbh, bI, c_4, c_29, c_36, c_47]) dX5_fitsBelowHundred_65
        · refine lv_iload_n hx hb dX5_fitsBelowHundred_50 rfl (lv_at hl 2 rfl) ?_
          refine lv_bipush (v := 99) hx hb dX5_fitsBelowHundred_51 (by decide) ?_
          refine lv_icmp_gt (tgt := 64) hx hb dX5_fitsBelowHundred_53 (by decide) (fun c_53 => ?_) (fun c_53 => ?_)
          · refine lv_iconst (v := 0) hx hb dX5_fitsBelowHundred_64 (by decide) ?_
            exact ro_zret X (by simp [fbh, bI, c_4, c_29, c_36, c_47, c_53]) dX5_fitsBelowHundred_65
          · refine lv_iload_n hx hb dX5_fitsBelowHundred_56 rfl (lv_at hl 0 rfl) ?_
            refine lv_if_eq (tgt := 64) hx hb dX5_fitsBelowHundred_57 (by decide) (fun _ => ?_) (fun c_57 => absurd c_57 (by decide))
            refine lv_iconst (v := 0) hx hb dX5_fitsBelowHundred_64 (by decide) ?_
            exact ro_zret X (by simp [fbh, bI, c_4, c_29, c_36, c_47, c_53]) dX5_fitsBelowHundred_65
      · refine lv_iconst (v := 1) hx hb dX5_fitsBelowHundred_39 (by decide) ?_
        refine lv_goto (tgt := 44) hx hb dX5_fitsBelowHundred_40 (by decide) ?_
        refine lv_istore_n (lv' := [(2, _), (0, _), (1, _)]) hx hb dX5_fitsBelowHundred_44 rfl hl (by decide) rfl (fun ls hl => ?_)
        refine lv_iload_n hx hb dX5_fitsBelowHundred_45 rfl (lv_at hl 2 rfl) ?_
        refine lv_iconst (v := 1) hx hb dX5_fitsBelowHundred_46 (by decide) ?_
        refine lv_icmp_lt (tgt := 64) hx hb dX5_fitsBelowHundred_47 (by decide) (fun c_47 => ?_) (fun c_47 => ?_)
        · refine lv_iconst (v := 0) hx hb dX5_fitsBelowHundred_64 (by decide) ?_
          exact ro_zret X (by simp [fbh, bI, c_4, c_29, c_36, c_47]) dX5_fitsBelowHundred_65
        · refine lv_iload_n hx hb dX5_fitsBelowHundred_50 rfl (lv_at hl 2 rfl) ?_
          refine lv_bipush (v := 99) hx hb dX5_fitsBelowHundred_51 (by decide) ?_
          refine lv_icmp_gt (tgt := 64) hx hb dX5_fitsBelowHundred_53 (by decide) (fun c_53 => ?_) (fun c_53 => ?_)
          · refine lv_iconst (v := 0) hx hb dX5_fitsBelowHundred_64 (by decide) ?_
            exact ro_zret X (by simp [fbh, bI, c_4, c_29, c_36, c_47, c_53]) dX5_fitsBelowHundred_65
          · refine lv_iload_n hx hb dX5_fitsBelowHundred_56 rfl (lv_at hl 0 rfl) ?_
            refine lv_if_eq (tgt := 64) hx hb dX5_fitsBelowHundred_57 (by decide) (fun c_57 => absurd c_57 (by decide)) (fun _ => ?_)
            refine lv_iconst (v := 1) hx hb dX5_fitsBelowHundred_60 (by decide) ?_
            refine lv_goto (tgt := 65) hx hb dX5_fitsBelowHundred_61 (by decide) ?_
            exact ro_zret X (by simp [fbh, bI, c_4, c_29, c_36, c_47, c_53]) dX5_fitsBelowHundred_65
  · refine lv_aload_n hx hb dX5_fitsBelowHundred_7 rfl (lv_at hl 0 rfl) ?_
    refine va_get (D := D) (ci := 5) (C := RX5) (T := TX5) (N := 3) hx hb hts in_X5 hown hK hP 0 rfl rfl 1 (by decide) fl_13 (fun _ h9 => h9) rfl dX5_fitsBelowHundred_8 ?_
    refine lv_bipush (v := 100) hx hb dX5_fitsBelowHundred_11 (by decide) ?_
    refine lv_irem hx hb dX5_fitsBelowHundred_13 (by decide) ?_
    refine lv_if_ne (tgt := 21) hx hb dX5_fitsBelowHundred_14 (by decide) (fun c_14 => ?_) (fun c_14 => ?_)
    · refine lv_iconst (v := 0) hx hb dX5_fitsBelowHundred_21 (by decide) ?_
      refine lv_goto (tgt := 44) hx hb dX5_fitsBelowHundred_22 (by decide) ?_
      refine lv_istore_n (lv' := [(2, _), (0, _), (1, _)]) hx hb dX5_fitsBelowHundred_44 rfl hl (by decide) rfl (fun ls hl => ?_)
      refine lv_iload_n hx hb dX5_fitsBelowHundred_45 rfl (lv_at hl 2 rfl) ?_
      refine lv_iconst (v := 1) hx hb dX5_fitsBelowHundred_46 (by decide) ?_
      refine lv_icmp_lt (tgt := 64) hx hb dX5_fitsBelowHundred_47 (by decide) (fun c_47 => ?_) (fun c_47 => ?_)
      · refine lv_iconst (v := 0) hx hb dX5_fitsBelowHundred_64 (by decide) ?_
        exact ro_zret X (by simp [fbh, bI, c_4, c_14, c_47]) dX5_fitsBelowHundred_65
      · refine lv_iload_n hx hb dX5_fitsBelowHundred_50 rfl (lv_at hl 2 rfl) ?_
        refine lv_bipush (v := 99) hx hb dX5_fitsBelowHundred_51 (by decide) ?_
        refine lv_icmp_gt (tgt := 64) hx hb dX5_fitsBelowHundred_53 (by decide) (fun c_53 => ?_) (fun c_53 => ?_)
        · refine lv_iconst (v := 0) hx hb dX5_fitsBelowHundred_64 (by decide) ?_
          exact ro_zret X (by simp [fbh, bI, c_4, c_14, c_47, c_53]) dX5_fitsBelowHundred_65
        · refine lv_iload_n hx hb dX5_fitsBelowHundred_56 rfl (lv_at hl 0 rfl) ?_
          refine lv_if_eq (tgt := 64) hx hb dX5_fitsBelowHundred_57 (by decide) (fun _ => ?_) (fun c_57 => absurd c_57 (by decide))
          refine lv_iconst (v := 0) hx hb dX5_fitsBelowHundred_64 (by decide) ?_
          exact ro_zret X (by simp [fbh, bI, c_4, c_14, c_47, c_53]) dX5_fitsBelowHundred_65
    · refine lv_iconst (v := 1) hx hb dX5_fitsBelowHundred_17 (by decide) ?_
      refine lv_goto (tgt := 44) hx hb dX5_fitsBelowHundred_18 (by decide) ?_
      refine lv_istore_n (lv' := [(2, _), (0, _), (1, _)]) hx hb dX5_fitsBelowHundred_44 rfl hl (by decide) rfl (fun ls hl => ?_)
      refine lv_iload_n hx hb dX5_fitsBelowHundred_45 rfl (lv_at hl 2 rfl) ?_
      refine lv_iconst (v := 1) hx hb dX5_fitsBelowHundred_46 (by decide) ?_
      refine lv_icmp_lt (tgt := 64) hx hb dX5_fitsBelowHundred_47 (by decide) (fun c_47 => ?_) (fun c_47 => ?_)
      · refine lv_iconst (v := 0) hx hb dX5_fitsBelowHundred_64 (by decide) ?_
        exact ro_zret X (by simp [fbh, bI, c_4, c_14, c_47]) dX5_fitsBelowHundred_65
      · refine lv_iload_n hx hb dX5_fitsBelowHundred_50 rfl (lv_at hl 2 rfl) ?_
        refine lv_bipush (v := 99) hx hb dX5_fitsBelowHundred_51 (by decide) ?_
        refine lv_icmp_gt (tgt := 64) hx hb dX5_fitsBelowHundred_53 (by decide) (fun c_53 => ?_) (fun c_53 => ?_)
        · refine lv_iconst (v := 0) hx hb dX5_fitsBelowHundred_64 (by decide) ?_
          exact ro_zret X (by simp [fbh, bI, c_4, c_14, c_47, c_53]) dX5_fitsBelowHundred_65
        · refine lv_iload_n hx hb dX5_fitsBelowHundred_56 rfl (lv_at hl 0 rfl) ?_
          refine lv_if_eq (tgt := 64) hx hb dX5_fitsBelowHundred_57 (by decide) (fun c_57 => absurd c_57 (by decide)) (fun _ => ?_)
          refine lv_iconst (v := 1) hx hb dX5_fitsBelowHundred_60 (by decide) ?_
          refine lv_goto (tgt := 65) hx hb dX5_fitsBelowHundred_61 (by decide) ?_
          exact ro_zret X (by simp [fbh, bI, c_4, c_14, c_47, c_53]) dX5_fitsBelowHundred_65

set_option maxHeartbeats 1000000 in
set_option maxRecDepth 100000 in
theorem c_X5_fitsBelowTen {l : Launch} {D : va_G} {cI cJ cW : ClassId} {u : Nat} {sr sp sl : Int32} {v : Int32}  : RO l yX5_fitsBelowTen wsX5_fitsBelowTen { frames := 0, cells := 0, slots := 0, locals := 0 } D (ty3 cI cJ cW) [.ref u, .int v] [(u, .inr (5, [.int sr, .int sp, .int sl]))] (.int (bI (fbt sp v))) := by
  refine ro_of (cc := cX5_fitsBelowTen) (maxL := 3) (ret := (some .boolean)) (by decide) rfl (Nat.le_of_ble_eq_true rfl) ?_
  intro pr en ss mi below meth cd X hP hK ls hl
  obtain ⟨hx, hb, hml, hown, hts, hr, hlocks⟩ := id X
  have fl_13 := hts (.fieldLink RX5 13 "WordTables$Sum" "part" "I") (by decide +kernel)
  have in_X5 : ∀ w ∈ wsX50, w ∈ wsX5_fitsBelowTen := by decide +kernel
  have hl : lv_has ls 3 [(0, .ref u), (1, .int v)] := hl
  refine lv_aload_n hx hb dX5_fitsBelowTen_0 rfl (lv_at hl 0 rfl) ?_
  refine va_get (D := D) (ci := 5) (C := RX5) (T := TX5) (N := 3) hx hb hts in_X5 hown hK hP 0 rfl rfl 1 (by decide) fl_13 (fun _ h9 => h9) rfl dX5_fitsBelowTen_1 ?_
  refine lv_bipush (v := 100) hx hb dX5_fitsBelowTen_4 (by decide) ?_
  refine lv_irem hx hb dX5_fitsBelowTen_6 (by decide) ?_
  refine lv_istore_n (lv' := [(2, _), (0, _), (1, _)]) hx hb dX5_fitsBelowTen_7 rfl hl (by decide) rfl (fun ls hl => ?_)
  refine lv_iload_n hx hb dX5_fitsBelowTen_8 rfl (lv_at hl 2 rfl) ?_
  refine lv_iconst (v := 1) hx hb dX5_fitsBelowTen_9 (by decide) ?_
  refine lv_icmp_lt (tgt := 36) hx hb dX5_fitsBelowTen_10 (by decide) (fun c_10 => ?_) (fun c_10 => ?_)
  · refine lv_iconst (v := 0) hx hb dX5_fitsBelowTen_36 (by decide) ?_
    exact ro_zret X (by simp [fbt, bI, c_10]) dX5_fitsBelowTen_37
  · refine lv_iload_n hx hb dX5_fitsBelowTen_13 rfl (lv_at hl 2 rfl) ?_
    refine lv_bipush (v := 9) hx hb dX5_fitsBelowTen_14 (by decide) ?_
    refine lv_icmp_gt (tgt := 36) hx hb dX5_fitsBelowTen_16 (by decide) (fun c_16 => ?_) (fun c_16 => ?_)
    · refine lv_iconst (v := 0) hx hb dX5_fitsBelowTen_36 (by decide) ?_
      exact ro_zret X (by simp [fbt, bI, c_10, c_16]) dX5_fitsBelowTen_37
    · refine lv_iload_n hx hb dX5_fitsBelowTen_19 rfl (lv_at hl 0 rfl) ?_
      refine lv_bipush (v := 20) hx hb dX5_fitsBelowTen_20 (by decide) ?_
      refine lv_icmp_lt (tgt := 36) hx hb dX5_fitsBelowTen_22 (by decide) (fun c_22 => ?_) (fun c_22 => ?_)
      · refine lv_iconst (v := 0) hx hb dX5_fitsBelowTen_36 (by decide) ?_
        exact ro_zret X (by simp [fbt, bI, c_10, c_16, c_22]) dX5_fitsBelowTen_37
      · refine lv_iload_n hx hb dX5_fitsBelowTen_25 rfl (lv_at hl 0 rfl) ?_
        refine lv_bipush (v := 10) hx hb dX5_fitsBelowTen_26 (by decide) ?_
        refine lv_irem hx hb dX5_fitsBelowTen_28 (by decide) ?_
        refine lv_if_ne (tgt := 36) hx hb dX5_fitsBelowTen_29 (by decide) (fun c_29 => ?_) (fun c_29 => ?_)
        · refine lv_iconst (v := 0) hx hb dX5_fitsBelowTen_36 (by decide) ?_
          exact ro_zret X (by simp [fbt, bI, c_10, c_16, c_22, c_29]) dX5_fitsBelowTen_37
        · refine lv_iconst (v := 1) hx hb dX5_fitsBelowTen_32 (by decide) ?_
          refine lv_goto (tgt := 37) hx hb dX5_fitsBelowTen_33 (by decide) ?_
          exact ro_zret X (by simp [fbt, bI, c_10, c_16, c_22, c_29]) dX5_fitsBelowTen_37

set_option maxHeartbeats 1000000 in
set_option maxRecDepth 100000 in
theorem c_X5_accept {l : Launch} {D : va_G} {cI cJ cW : ClassId} {sz : Nat} {u : Nat} {sr sp sl : Int32} {v : Int32}  : MU l yX5_accept wsX5_accept { frames := 1, cells := 0, slots := 0, locals := 22 } D (ty3 cI cJ cW) [.ref u, .int v] [(u, .inr (5, [.int sr, .int sp, .int sl]))] sz (some (.int (bI (sumA sr sp sl v).1))) [(u, .inr (5, [.int ((sumA sr sp sl v).2.1), .int ((sumA sr sp sl v).2.2.1), .int ((sumA sr sp sl v).2.2.2)]))] := by
  refine mu_of (cc := cX5_accept) (maxL := 2) (ret := (some .boolean)) (by decide) rfl (Nat.le_of_ble_eq_true rfl) ?_
  intro pr en ss mi below meth cd X hK A hA hP hD hS ls hl
  obtain ⟨hx, hb, hml, hown, hts, hr, hlocks⟩ := id X
  have fl_13 := hts (.fieldLink RX5 13 "WordTables$Sum" "part" "I") (by decide +kernel)
  have fl_16 := hts (.fieldLink RX5 16 "WordTables$Sum" "length" "I") (by decide +kernel)
  have fl_7 := hts (.fieldLink RX5 7 "WordTables$Sum" "rest" "I") (by decide +kernel)
  have in_X5 : ∀ w ∈ wsX50, w ∈ wsX5_accept := by decide +kernel
  have hl : lv_has ls 2 [(0, .ref u), (1, .int v)] := hl
  refine lv_aload_n hx hb dX5_accept_0 rfl (lv_at hl 0 rfl) ?_
  refine va_get (D := D) (ci := 5) (C := RX5) (T := TX5) (N := 3) hx hb hts in_X5 hown hK hP 0 rfl rfl 2 (by decide) fl_16 (fun _ h9 => h9) rfl dX5_accept_1 ?_
  refine lv_if_ne (tgt := 14) hx hb dX5_accept_4 (by decide) (fun c_4 => ?_) (fun c_4 => ?_)
  · refine lv_iload_n hx hb dX5_accept_14 rfl (lv_at hl 1 rfl) ?_
    refine lv_bipush (v := 100) hx hb dX5_accept_15 (by decide) ?_
    refine lv_icmp_ne (tgt := 51) hx hb dX5_accept_17 (by decide) (fun c_17 => ?_) (fun c_17 => ?_)
    · refine lv_iload_n hx hb dX5_accept_51 rfl (lv_at hl 1 rfl) ?_
      refine lv_sipush (v := 1000) hx hb dX5_accept_52 (by decide) ?_
      refine lv_icmp_ne (tgt := 103) hx hb dX5_accept_55 (by decide) (fun c_55 => ?_) (fun c_55 => ?_)
      · refine lv_aload_n hx hb dX5_accept_103 rfl (lv_at hl 0 rfl) ?_
        refine lv_iload_n hx hb dX5_accept_104 rfl (lv_at hl 1 rfl) ?_
        refine ro_V (n := 1) X hK (c_X5_fitsBelowHundred) gX5_accept_X5_fitsBelowHundred rfl (by decide +kernel) ⟨rfl, rfl⟩ ⟨Nat.le_of_ble_eq_true rfl, Nat.le_of_ble_eq_true rfl⟩ (hP.sub [0] rfl) (va_recv hK hP (ci := 5) (q0 := 0) rfl rfl) rfl hl.1 rfl (Nat.le_of_ble_eq_true rfl) dX5_accept_105 ⟨Nat.zero_le _, Nat.zero_le _⟩ ?_
        refine lv_if_ne (tgt := 119) hx hb dX5_accept_108 (by decide) (fun c_108 => ?_) (fun c_108 => ?_)
        · replace c_108 := bI_n0.mp c_108
          refine lv_aload_n hx hb dX5_accept_119 rfl (lv_at hl 0 rfl) ?_
          refine lv_dup hx hb dX5_accept_120 rfl ?_
          refine va_get (D := D) (ci := 5) (C := RX5) (T := TX5) (N := 3) hx hb hts in_X5 hown hK hP 0 rfl rfl 1 (by decide) fl_13 (fun _ h9 => h9) rfl dX5_accept_121 ?_
          refine lv_iload_n hx hb dX5_accept_124 rfl (lv_at hl 1 rfl) ?_
          refine lv_iadd hx hb dX5_accept_125 ?_
          refine va_put (D := D) (ci := 5) (ty := .int) (C := RX5) (T := TX5) (N := 3) hx hb hts in_X5 tyX5 tyX5_ok nmX5 hown hK hP hD hS 0 rfl rfl 1 (by decide) fl_13 (fun _ h9 => h9) rfl (by decide +kernel) rfl rfl (Nat.le_of_ble_eq_true rfl) dX5_accept_126 (fun H locs hP hD hS => ?_)
          have hP : va_P D vwCl [(u, .inr (5, [_, _, _]))] H := hP
          have hD : va_D A [(u, .inr (5, [_, _, _]))] := hD
          refine lv_goto (tgt := 134) hx hb dX5_accept_129 (by decide) ?_
          refine lv_aload_n hx hb dX5_accept_134 rfl (lv_at hl 0 rfl) ?_
          refine lv_dup hx hb dX5_accept_135 rfl ?_
          refine va_get (D := D) (ci := 5) (C := RX5) (T := TX5) (N := 3) hx hb hts in_X5 hown hK hP 0 rfl rfl 2 (by decide) fl_16 (fun _ h9 => h9) rfl dX5_accept_136 ?_
          refine lv_iconst (v := 1) hx hb dX5_accept_139 (by decide) ?_
          refine lv_iadd hx hb dX5_accept_140 ?_
          refine va_put (D := D) (ci := 5) (ty := .int) (C := RX5) (T := TX5) (N := 3) hx hb hts in_X5 tyX5 tyX5_ok nmX5 hown hK hP hD hS 0 rfl rfl 2 (by decide) fl_16 (fun _ h9 => h9) rfl (by decide +kernel) rfl rfl (Nat.le_of_ble_eq_true rfl) dX5_accept_141 (fun H locs hP hD hS => ?_)
          have hP : va_P D vwCl [(u, .inr (5, [_, _, _]))] H := hP
          have hD : va_D A [(u, .inr (5, [_, _, _]))] := hD
          refine lv_iconst (v := 1) hx hb dX5_accept_144 (by decide) ?_
          exact mu_zret X hP hS (by simp_all [sumA, bI]) (by simp_all [sumA, bI]) dX5_accept_145
        · replace c_108 := bI_0.mp c_108
          refine lv_aload_n hx hb dX5_accept_111 rfl (lv_at hl 0 rfl) ?_
          refine lv_iload_n hx hb dX5_accept_112 rfl (lv_at hl 1 rfl) ?_
          refine ro_V (n := 1) X hK (c_X5_fitsBelowTen) gX5_accept_X5_fitsBelowTen rfl (by decide +kernel) ⟨rfl, rfl⟩ ⟨Nat.le_of_ble_eq_true rfl, Nat.le_of_ble_eq_true rfl⟩ (hP.sub [0] rfl) (va_recv hK hP (ci := 5) (q0 := 0) rfl rfl) rfl hl.1 rfl (Nat.le_of_ble_eq_true rfl) dX5_accept_113 ⟨Nat.zero_le _, Nat.zero_le _⟩ ?_
          refine lv_if_eq (tgt := 132) hx hb dX5_accept_116 (by decide) (fun c_116 => ?_) (fun c_116 => ?_)
          · replace c_116 := bI_0.mp c_116
            refine lv_iconst (v := 0) hx hb dX5_accept_132 (by decide) ?_
            exact mu_zret X hP hS (by simp_all [sumA, bI]) (by simp_all [sumA, bI]) dX5_accept_133
          · replace c_116 := bI_n0.mp c_116
            refine lv_aload_n hx hb dX5_accept_119 rfl (lv_at hl 0 rfl) ?_
            refine lv_dup hx hb dX5_accept_120 rfl ?_
            refine va_get (D := D) (ci := 5) (C := RX5) (T := TX5) (N := 3) hx hb hts in_X5 hown hK hP 0 rfl rfl 1 (by decide) fl_13 (fun _ h9 => h9) rfl dX5_accept_121 ?_
            refine lv_iload_n hx hb dX5_accept_124 rfl (lv_at hl 1 rfl) ?_
            refine lv_iadd hx hb dX5_accept_125 ?_
            refine va_put (D := D) (ci := 5) (ty := .int) (C := RX5) (T := TX5) (N := 3) hx hb hts in_X5 tyX5 tyX5_ok nmX5 hown hK hP hD hS 0 rfl rfl 1 (by decide) fl_13 (fun _ h9 => h9) rfl (by decide +kernel) rfl rfl (Nat.le_of_ble_eq_true rfl) dX5_accept_126 (fun H locs hP hD hS => ?_)
            have hP : va_P D vwCl [(u, .inr (5, [_, _, _]))] H := hP
            have hD : va_D A [(u, .inr (5, [_, _, _]))] := hD
            refine lv_goto (tgt := 134) hx hb dX5_accept_129 (by decide) ?_
            refine lv_aload_n hx hb dX5_accept_134 rfl (lv_at hl 0 rfl) ?_
            refine lv_dup hx hb dX5_accept_135 rfl ?_
            refine va_get (D := D) (ci := 5) (C := RX5) (T := TX5) (N := 3) hx hb hts in_X5 hown hK hP 0 rfl rfl 2 (by decide) fl_16 (fun _ h9 => h9) rfl dX5_accept_136 ?_
            refine lv_iconst (v := 1) hx hb dX5_accept_139 (by decide) ?_
            refine lv_iadd hx hb dX5_accept_140 ?_
            refine va_put (D := D) (ci := 5) (ty := .int) (C := RX5) (T := TX5) (N := 3) hx hb hts in_X5 tyX5 tyX5_ok nmX5 hown hK hP hD hS 0 rfl rfl 2 (by decide) fl_16 (fun _ h9 => h9) rfl (by decide +kernel) rfl rfl (Nat.le_of_ble_eq_true rfl) dX5_accept_141 (fun H locs hP hD hS => ?_)
            have hP : va_P D vwCl [(u, .inr (5, [_, _, _]))] H := hP
            have hD : va_D A [(u, .inr (5, [_, _, _]))] := hD
            refine lv_iconst (v := 1) hx hb dX5_accept_144 (by decide) ?_
            exact mu_zret X hP hS (by simp_all [sumA, bI]) (by simp_all [sumA, bI]) dX5_accept_145
      · refine lv_aload_n hx hb dX5_accept_58 rfl (lv_at hl 0 rfl) ?_
        refine va_get (D := D) (ci := 5) (C := RX5) (T := TX5) (N := 3) hx hb hts in_X5 hown hK hP 0 rfl rfl 1 (by decide) fl_13 (fun _ h9 => h9) rfl dX5_accept_59 ?_
        refine lv_iconst (v := 1) hx hb dX5_accept_62 (by decide) ?_
        refine lv_icmp_lt (tgt := 103) hx hb dX5_accept_63 (by decide) (fun c_63 => ?_) (fun c_63 => ?_)
        · refine lv_aload_n hx hb dX5_accept_103 rfl (lv_at hl 0 rfl) ?_
          refine lv_iload_n hx hb dX5_accept_104 rfl (lv_at hl 1 rfl) ?_
          refine ro_V (n := 1) X hK (c_X5_fitsBelowHundred) gX5_accept_X5_fitsBelowHundred rfl (by decide +kernel) ⟨rfl, rfl⟩ ⟨Nat.le_of_ble_eq_true rfl, Nat.le_of_ble_eq_true rfl⟩ (hP.sub [0] rfl) (va_recv hK hP (ci := 5) (q0 := 0) rfl rfl) rfl hl.1 rfl (Nat.le_of_ble_eq_true rfl) dX5_accept_105 ⟨Nat.zero_le _, Nat.zero_le _⟩ ?_
          refine lv_if_ne (tgt := 119) hx hb dX5_accept_108 (by decide) (fun c_108 => ?_) (fun c_108 => ?_)
          · replace c_108 := bI_n0.mp c_108
            refine lv_aload_n hx hb dX5_accept_119 rfl (lv_at hl 0 rfl) ?_
            refine lv_dup hx hb dX5_accept_120 rfl ?_
            refine va_get (D := D) (ci := 5) (C := RX5) (T := TX5) (N := 3) hx hb hts in_X5 hown hK hP 0 rfl rfl 1 (by decide) fl_13 (fun _ h9 => h9) rfl dX5_accept_121 ?_
            refine lv_iload_n hx hb dX5_accept_124 rfl (lv_at hl 1 rfl) ?_
            refine lv_iadd hx hb dX5_accept_125 ?_
            refine va_put (D := D) (ci := 5) (ty := .int) (C := RX5) (T := TX5) (N := 3) hx hb hts in_X5 tyX5 tyX5_ok nmX5 hown hK hP hD hS 0 rfl rfl 1 (by decide) fl_13 (fun _ h9 => h9) rfl (by decide +kernel) rfl rfl (Nat.le_of_ble_eq_true rfl) dX5_accept_126 (fun H locs hP hD hS => ?_)
            have hP : va_P D vwCl [(u, .inr (5, [_, _, _]))] H := hP
            have hD : va_D A [(u, .inr (5, [_, _, _]))] := hD
            refine lv_goto (tgt := 134) hx hb dX5_accept_129 (by decide) ?_
            refine lv_aload_n hx hb dX5_accept_134 rfl (lv_at hl 0 rfl) ?_
            refine lv_dup hx hb dX5_accept_135 rfl ?_
            refine va_get (D := D) (ci := 5) (C := RX5) (T := TX5) (N := 3) hx hb hts in_X5 hown hK hP 0 rfl rfl 2 (by decide) fl_16 (fun _ h9 => h9) rfl dX5_accept_136 ?_
            refine lv_iconst (v := 1) hx hb dX5_accept_139 (by decide) ?_
            refine lv_iadd hx hb dX5_accept_140 ?_
            refine va_put (D := D) (ci := 5) (ty := .int) (C := RX5) (T := TX5) (N := 3) hx hb hts in_X5 tyX5 tyX5_ok nmX5 hown hK hP hD hS 0 rfl rfl 2 (by decide) fl_16 (fun _ h9 => h9) rfl (by decide +kernel) rfl rfl (Nat.le_of_ble_eq_true rfl) dX5_accept_141 (fun H locs hP hD hS => ?_)
            have hP : va_P D vwCl [(u, .inr (5, [_, _, _]))] H := hP
            have hD : va_D A [(u, .inr (5, [_, _, _]))] := hD
            refine lv_iconst (v := 1) hx hb dX5_accept_144 (by decide) ?_
            exact mu_zret X hP hS (by simp_all [sumA, bI]) (by simp_all [sumA, bI]) dX5_accept_145
          · replace c_108 := bI_0.mp c_108
            refine lv_aload_n hx hb dX5_accept_111 rfl (lv_at hl 0 rfl) ?_
            refine lv_iload_n hx hb dX5_accept_112 rfl (lv_at hl 1 rfl) ?_
            refine ro_V (n := 1) X hK (c_X5_fitsBelowTen) gX5_accept_X5_fitsBelowTen rfl (by decide +kernel) ⟨rfl, rfl⟩ ⟨Nat.le_of_ble_eq_true rfl, Nat.le_of_ble_eq_true rfl⟩ (hP.sub [0] rfl) (va_recv hK hP (ci := 5) (q0 := 0) rfl rfl) rfl hl.1 rfl (Nat.le_of_ble_eq_true rfl) dX5_accept_113 ⟨Nat.zero_le _, Nat.zero_le _⟩ ?_
            refine lv_if_eq (tgt := 132) hx hb dX5_accept_116 (by decide) (fun c_116 => ?_) (fun c_116 => ?_)
            · replace c_116 := bI_0.mp c_116
              refine lv_iconst (v := 0) hx hb dX5_accept_132 (by decide) ?_
              exact mu_zret X hP hS (by simp_all [sumA, bI]) (by simp_all [sumA, bI]) dX5_accept_133
            · replace c_116 := bI_n0.mp c_116
              refine lv_aload_n hx hb dX5_accept_119 rfl (lv_at hl 0 rfl) ?_
              refine lv_dup hx hb dX5_accept_120 rfl ?_
              refine va_get (D := D) (ci := 5) (C := RX5) (T := TX5) (N := 3) hx hb hts in_X5 hown hK hP 0 rfl rfl 1 (by decide) fl_13 (fun _ h9 => h9) rfl dX5_accept_121 ?_
              refine lv_iload_n hx hb dX5_accept_124 rfl (lv_at hl 1 rfl) ?_
              refine lv_iadd hx hb dX5_accept_125 ?_
              refine va_put (D := D) (ci := 5) (ty := .int) (C := RX5) (T := TX5) (N := 3) hx hb hts in_X5 tyX5 tyX5_ok nmX5 hown hK hP hD hS 0 rfl rfl 1 (by decide) fl_13 (fun _ h9 => h9) rfl (by decide +kernel) rfl rfl (Nat.le_of_ble_eq_true rfl) dX5_accept_126 (fun H locs hP hD hS => ?_)
              have hP : va_P D vwCl [(u, .inr (5, [_, _, _]))] H := hP
              have hD : va_D A [(u, .inr (5, [_, _, _]))] := hD
              refine lv_goto (tgt := 134) hx hb dX5_accept_129 (by decide) ?_
              refine lv_aload_n hx hb dX5_accept_134 rfl (lv_at hl 0 rfl) ?_
              refine lv_dup hx hb dX5_accept_135 rfl ?_
              refine va_get (D := D) (ci := 5) (C := RX5) (T := TX5) (N := 3) hx hb hts in_X5 hown hK hP 0 rfl rfl 2 (by decide) fl_16 (fun _ h9 => h9) rfl dX5_accept_136 ?_
              refine lv_iconst (v := 1) hx hb dX5_accept_139 (by decide) ?_
              refine lv_iadd hx hb dX5_accept_140 ?_
              refine va_put (D := D) (ci := 5) (ty := .int) (C := RX5) (T := TX5) (N := 3) hx hb hts in_X5 tyX5 tyX5_ok nmX5 hown hK hP hD hS 0 rfl rfl 2 (by decide) fl_16 (fun _ h9 => h9) rfl (by decide +kernel) rfl rfl (Nat.le_of_ble_eq_true rfl) dX5_accept_141 (fun H locs hP hD hS => ?_)
              have hP : va_P D vwCl [(u, .inr (5, [_, _, _]))] H := hP
              have hD : va_D A [(u, .inr (5, [_, _, _]))] := hD
              refine lv_iconst (v := 1) hx hb dX5_accept_144 (by decide) ?_
              exact mu_zret X hP hS (by simp_all [sumA, bI]) (by simp_all [sumA, bI]) dX5_accept_145
        · refine lv_aload_n hx hb dX5_accept_66 rfl (lv_at hl 0 rfl) ?_
          refine va_get (D := D) (ci := 5) (C := RX5) (T := TX5) (N := 3) hx hb hts in_X5 hown hK hP 0 rfl rfl 1 (by decide) fl_13 (fun _ h9 => h9) rfl dX5_accept_67 ?_
          refine lv_sipush (v := 999) hx hb dX5_accept_70 (by decide) ?_
          refine lv_icmp_gt (tgt := 103) hx hb dX5_accept_73 (by decide) (fun c_73 => ?_) (fun c_73 => ?_)
          · refine lv_aload_n hx hb dX5_accept_103 rfl (lv_at hl 0 rfl) ?_
            refine lv_iload_n hx hb dX5_accept_104 rfl (lv_at hl 1 rfl) ?_
            refine ro_V (n := 1) X hK (c_X5_fitsBelowHundred) gX5_accept_X5_fitsBelowHundred rfl (by decide +kernel) ⟨rfl, rfl⟩ ⟨Nat.le_of_ble_eq_true rfl, Nat.le_of_ble_eq_true rfl⟩ (hP.sub [0] rfl) (va_recv hK hP (ci := 5) (q0 := 0) rfl rfl) rfl hl.1 rfl (Nat.le_of_ble_eq_true rfl) dX5_accept_105 ⟨Nat.zero_le _, Nat.zero_le _⟩ ?_
            refine lv_if_ne (tgt := 119) hx hb dX5_accept_108 (by decide) (fun c_108 => ?_) (fun c_108 => ?_)
            · replace c_108 := bI_n0.mp c_108
              refine lv_aload_n hx hb dX5_accept_119 rfl (lv_at hl 0 rfl) ?_
              refine lv_dup hx hb dX5_accept_120 rfl ?_
              refine va_get (D := D) (ci := 5) (C := RX5) (T := TX5) (N := 3) hx hb hts in_X5 hown hK hP 0 rfl rfl 1 (by decide) fl_13 (fun _ h9 => h9) rfl dX5_accept_121 ?_
              refine lv_iload_n hx hb dX5_accept_124 rfl (lv_at hl 1 rfl) ?_
              refine lv_iadd hx hb dX5_accept_125 ?_
              refine va_put (D := D) (ci := 5) (ty := .int) (C := RX5) (T := TX5) (N := 3) hx hb hts in_X5 tyX5 tyX5_ok nmX5 hown hK hP hD hS 0 rfl rfl 1 (by decide) fl_13 (fun _ h9 => h9) rfl (by decide +kernel) rfl rfl (Nat.le_of_ble_eq_true rfl) dX5_accept_126 (fun H locs hP hD hS => ?_)
              have hP : va_P D vwCl [(u, .inr (5, [_, _, _]))] H := hP
              have hD : va_D A [(u, .inr (5, [_, _, _]))] := hD
              refine lv_goto (tgt := 134) hx hb dX5_accept_129 (by decide) ?_
              refine lv_aload_n hx hb dX5_accept_134 rfl (lv_at hl 0 rfl) ?_
              refine lv_dup hx hb dX5_accept_135 rfl ?_
              refine va_get (D := D) (ci := 5) (C := RX5) (T := TX5) (N := 3) hx hb hts in_X5 hown hK hP 0 rfl rfl 2 (by decide) fl_16 (fun _ h9 => h9) rfl dX5_accept_136 ?_
              refine lv_iconst (v := 1) hx hb dX5_accept_139 (by decide) ?_
              refine lv_iadd hx hb dX5_accept_140 ?_
              refine va_put (D := D) (ci := 5) (ty := .int) (C := RX5) (T := TX5) (N := 3) hx hb hts in_X5 tyX5 tyX5_ok nmX5 hown hK hP hD hS 0 rfl rfl 2 (by decide) fl_16 (fun _ h9 => h9) rfl (by decide +kernel) rfl rfl (Nat.le_of_ble_eq_true rfl) dX5_accept_141 (fun H locs hP hD hS => ?_)
              have hP : va_P D vwCl [(u, .inr (5, [_, _, _]))] H := hP
              have hD : va_D A [(u, .inr (5, [_, _, _]))] := hD
              refine lv_iconst (v := 1) hx hb dX5_accept_144 (by decide) ?_
              exact mu_zret X hP hS (by simp_all [sumA, bI]) (by simp_all [sumA, bI]) dX5_accept_145
            · replace c_108 := bI_0.mp c_108
              refine lv_aload_n hx hb dX5_accept_111 rfl (lv_at hl 0 rfl) ?_
              refine lv_iload_n hx hb dX5_accept_112 rfl (lv_at hl 1 rfl) ?_
              refine ro_V (n := 1) X hK (c_X5_fitsBelowTen) gX5_accept_X5_fitsBelowTen rfl (by decide +kernel) ⟨rfl, rfl⟩ ⟨Nat.le_of_ble_eq_true rfl, Nat.le_of_ble_eq_true rfl⟩ (hP.sub [0] rfl) (va_recv hK hP (ci := 5) (q0 := 0) rfl rfl) rfl hl.1 rfl (Nat.le_of_ble_eq_true rfl) dX5_accept_113 ⟨Nat.zero_le _, Nat.zero_le _⟩ ?_
              refine lv_if_eq (tgt := 132) hx hb dX5_accept_116 (by decide) (fun c_116 => ?_) (fun c_116 => ?_)
              · replace c_116 := bI_0.mp c_116
                refine lv_iconst (v := 0) hx hb dX5_accept_132 (by decide) ?_
                exact mu_zret X hP hS (by simp_all [sumA, bI]) (by simp_all [sumA, bI]) dX5_accept_133
              · replace c_116 := bI_n0.mp c_116
                refine lv_aload_n hx hb dX5_accept_119 rfl (lv_at hl 0 rfl) ?_
                refine lv_dup hx hb dX5_accept_120 rfl ?_
                refine va_get (D := D) (ci := 5) (C := RX5) (T := TX5) (N := 3) hx hb hts in_X5 hown hK hP 0 rfl rfl 1 (by decide) fl_13 (fun _ h9 => h9) rfl dX5_accept_121 ?_
                refine lv_iload_n hx hb dX5_accept_124 rfl (lv_at hl 1 rfl) ?_
                refine lv_iadd hx hb dX5_accept_125 ?_
                refine va_put (D := D) (ci := 5) (ty := .int) (C := RX5) (T := TX5) (N := 3) hx hb hts in_X5 tyX5 tyX5_ok nmX5 hown hK hP hD hS 0 rfl rfl 1 (by decide) fl_13 (fun _ h9 => h9) rfl (by decide +kernel) rfl rfl (Nat.le_of_ble_eq_true rfl) dX5_accept_126 (fun H locs hP hD hS => ?_)
                have hP : va_P D vwCl [(u, .inr (5, [_, _, _]))] H := hP
                have hD : va_D A [(u, .inr (5, [_, _, _]))] := hD
                refine lv_goto (tgt := 134) hx hb dX5_accept_129 (by decide) ?_
                refine lv_aload_n hx hb dX5_accept_134 rfl (lv_at hl 0 rfl) ?_
                refine lv_dup hx hb dX5_accept_135 rfl ?_
                refine va_get (D := D) (ci := 5) (C := RX5) (T := TX5) (N := 3) hx hb hts in_X5 hown hK hP 0 rfl rfl 2 (by decide) fl_16 (fun _ h9 => h9) rfl dX5_accept_136 ?_
                refine lv_iconst (v := 1) hx hb dX5_accept_139 (by decide) ?_
                refine lv_iadd hx hb dX5_accept_140 ?_
                refine va_put (D := D) (ci := 5) (ty := .int) (C := RX5) (T := TX5) (N := 3) hx hb hts in_X5 tyX5 tyX5_ok nmX5 hown hK hP hD hS 0 rfl rfl 2 (by decide) fl_16 (fun _ h9 => h9) rfl (by decide +kernel) rfl rfl (Nat.le_of_ble_eq_true rfl) dX5_accept_141 (fun H locs hP hD hS => ?_)
                have hP : va_P D vwCl [(u, .inr (5, [_, _, _]))] H := hP
                have hD : va_D A [(u, .inr (5, [_, _, _]))] := hD
                refine lv_iconst (v := 1) hx hb dX5_accept_144 (by decide) ?_
                exact mu_zret X hP hS (by simp_all [sumA, bI]) (by simp_all [sumA, bI]) dX5_accept_145
          · refine lv_aload_n hx hb dX5_accept_76 rfl (lv_at hl 0 rfl) ?_
            refine va_get (D := D) (ci := 5) (C := RX5) (T := TX5) (N := 3) hx hb hts in_X5 hown hK hP 0 rfl rfl 0 (by decide) fl_7 (fun _ h9 => h9) rfl dX5_accept_77 ?_
            refine lv_if_ne (tgt := 103) hx hb dX5_accept_80 (by decide) (fun c_80 => ?_) (fun c_80 => ?_)
            · refine lv_aload_n hx hb dX5_accept_103 rfl (lv_at hl 0 rfl) ?_
              refine lv_iload_n hx hb dX5_accept_104 rfl (lv_at hl 1 rfl) ?_
              refine ro_V (n := 1) X hK (c_X5_fitsBelowHundred) gX5_accept_X5_fitsBelowHundred rfl (by decide +kernel) ⟨rfl, rfl⟩ ⟨Nat.le_of_ble_eq_true rfl, Nat.le_of_ble_eq_true rfl⟩ (hP.sub [0] rfl) (va_recv hK hP (ci := 5) (q0 := 0) rfl rfl) rfl hl.1 rfl (Nat.le_of_ble_eq_true rfl) dX5_accept_105 ⟨Nat.zero_le _, Nat.zero_le _⟩ ?_
              refine lv_if_ne (tgt := 119) hx hb dX5_accept_108 (by decide) (fun c_108 => ?_) (fun c_108 => ?_)
              · replace c_108 := bI_n0.mp c_108
                refine lv_aload_n hx hb dX5_accept_119 rfl (lv_at hl 0 rfl) ?_
                refine lv_dup hx hb dX5_accept_120 rfl ?_
                refine va_get (D := D) (ci := 5) (C := RX5) (T := TX5) (N := 3) hx hb hts in_X5 hown hK hP 0 rfl rfl 1 (by decide) fl_13 (fun _ h9 => h9) rfl dX5_accept_121 ?_
                refine lv_iload_n hx hb dX5_accept_124 rfl (lv_at hl 1 rfl) ?_
                refine lv_iadd hx hb dX5_accept_125 ?_
                refine va_put (D := D) (ci := 5) (ty := .int) (C := RX5) (T := TX5) (N := 3) hx hb hts in_X5 tyX5 tyX5_ok nmX5 hown hK hP hD hS 0 rfl rfl 1 (by decide) fl_13 (fun _ h9 => h9) rfl (by decide +kernel) rfl rfl (Nat.le_of_ble_eq_true rfl) dX5_accept_126 (fun H locs hP hD hS => ?_)
                have hP : va_P D vwCl [(u, .inr (5, [_, _, _]))] H := hP
                have hD : va_D A [(u, .inr (5, [_, _, _]))] := hD
                refine lv_goto (tgt := 134) hx hb dX5_accept_129 (by decide) ?_
                refine lv_aload_n hx hb dX5_accept_134 rfl (lv_at hl 0 rfl) ?_
                refine lv_dup hx hb dX5_accept_135 rfl ?_
                refine va_get (D := D) (ci := 5) (C := RX5) (T := TX5) (N := 3) hx hb hts in_X5 hown hK hP 0 rfl rfl 2 (by decide) fl_16 (fun _ h9 => h9) rfl dX5_accept_136 ?_
                refine lv_iconst (v := 1) hx hb dX5_accept_139 (by decide) ?_
                refine lv_iadd hx hb dX5_accept_140 ?_
                refine va_put (D := D) (ci := 5) (ty := .int) (C := RX5) (T := TX5) (N := 3) hx hb hts in_X5 tyX5 tyX5_ok nmX5 hown hK hP hD hS 0 rfl rfl 2 (by decide) fl_16 (fun _ h9 => h9) rfl (by decide +kernel) rfl rfl (Nat.le_of_ble_eq_true rfl) dX5_accept_141 (fun H locs hP hD hS => ?_)
                have hP : va_P D vwCl [(u, .inr (5, [_, _, _]))] H := hP
                have hD : va_D A [(u, .inr (5, [_, _, _]))] := hD
                refine lv_iconst (v := 1) hx hb dX5_accept_144 (by decide) ?_
                exact mu_zret X hP hS (by simp_all [sumA, bI]) (by simp_all [sumA, bI]) dX5_accept_145
              · replace c_108 := bI_0.mp c_108
                refine lv_aload_n hx hb dX5_accept_111 rfl (lv_at hl 0 rfl) ?_
                refine lv_iload_n hx hb dX5_accept_112 rfl (lv_at hl 1 rfl) ?_
                refine ro_V (n := 1) X hK (c_X5_fitsBelowTen) gX5_accept_X5_fitsBelowTen rfl (by decide +kernel) ⟨rfl, rfl⟩ ⟨Nat.le_of_ble_eq_true rfl, Nat.le_of_ble_eq_true rfl⟩ (hP.sub [0] rfl) (va_recv hK hP (ci := 5) (q0 := 0) rfl rfl) rfl hl.1 rfl (Nat.le_of_ble_eq_true rfl) dX5_accept_113 ⟨Nat.zero_le _, Nat.zero_le _⟩ ?_
                refine lv_if_eq (tgt := 132) hx hb dX5_accept_116 (by decide) (fun c_116 => ?_) (fun c_116 => ?_)
                · replace c_116 := bI_0.mp c_116
                  refine lv_iconst (v := 0) hx hb dX5_accept_132 (by decide) ?_
                  exact mu_zret X hP hS (by simp_all [sumA, bI]) (by simp_all [sumA, bI]) dX5_accept_133
                · replace c_116 := bI_n0.mp c_116
                  refine lv_aload_n hx hb dX5_accept_119 rfl (lv_at hl 0 rfl) ?_
                  refine lv_dup hx hb dX5_accept_120 rfl ?_
                  refine va_get (D := D) (ci := 5) (C := RX5) (T := TX5) (N := 3) hx hb hts in_X5 hown hK hP 0 rfl rfl 1 (by decide) fl_13 (fun _ h9 => h9) rfl dX5_accept_121 ?_
                  refine lv_iload_n hx hb dX5_accept_124 rfl (lv_at hl 1 rfl) ?_
                  refine lv_iadd hx hb dX5_accept_125 ?_
                  refine va_put (D := D) (ci := 5) (ty := .int) (C := RX5) (T := TX5) (N := 3) hx hb hts in_X5 tyX5 tyX5_ok nmX5 hown hK hP hD hS 0 rfl rfl 1 (by decide) fl_13 (fun _ h9 => h9) rfl (by decide +kernel) rfl rfl (Nat.le_of_ble_eq_true rfl) dX5_accept_126 (fun H locs hP hD hS => ?_)
                  have hP : va_P D vwCl [(u, .inr (5, [_, _, _]))] H := hP
                  have hD : va_D A [(u, .inr (5, [_, _, _]))] := hD
                  refine lv_goto (tgt := 134) hx hb dX5_accept_129 (by decide) ?_
                  refine lv_aload_n hx hb dX5_accept_134 rfl (lv_at hl 0 rfl) ?_
                  refine lv_dup hx hb dX5_accept_135 rfl ?_
                  refine va_get (D := D) (ci := 5) (C := RX5) (T := TX5) (N := 3) hx hb hts in_X5 hown hK hP 0 rfl rfl 2 (by decide) fl_16 (fun _ h9 => h9) rfl dX5_accept_136 ?_
                  refine lv_iconst (v := 1) hx hb dX5_accept_139 (by decide) ?_
                  refine lv_iadd hx hb dX5_accept_140 ?_
                  refine va_put (D := D) (ci := 5) (ty := .int) (C := RX5) (T := TX5) (N := 3) hx hb hts in_X5 tyX5 tyX5_ok nmX5 hown hK hP hD hS 0 rfl rfl 2 (by decide) fl_16 (fun _ h9 => h9) rfl (by decide +kernel) rfl rfl (Nat.le_of_ble_eq_true rfl) dX5_accept_141 (fun H locs hP hD hS => ?_)
                  have hP : va_P D vwCl [(u, .inr (5, [_, _, _]))] H := hP
                  have hD : va_D A [(u, .inr (5, [_, _, _]))] := hD
                  refine lv_iconst (v := 1) hx hb dX5_accept_144 (by decide) ?_
                  exact mu_zret X hP hS (by simp_all [sumA, bI]) (by simp_all [sumA, bI]) dX5_accept_145
            · refine lv_aload_n hx hb dX5_accept_83 rfl (lv_at hl 0 rfl) ?_
              refine lv_sipush (v := 1000) hx hb dX5_accept_84 (by decide) ?_
              refine lv_aload_n hx hb dX5_accept_87 rfl (lv_at hl 0 rfl) ?_
              refine va_get (D := D) (ci := 5) (C := RX5) (T := TX5) (N := 3) hx hb hts in_X5 hown hK hP 0 rfl rfl 1 (by decide) fl_13 (fun _ h9 => h9) rfl dX5_accept_88 ?_
              refine lv_imul hx hb dX5_accept_91 ?_
              refine va_put (D := D) (ci := 5) (ty := .int) (C := RX5) (T := TX5) (N := 3) hx hb hts in_X5 tyX5 tyX5_ok nmX5 hown hK hP hD hS 0 rfl rfl 0 (by decide) fl_7 (fun _ h9 => h9) rfl (by decide +kernel) rfl rfl (Nat.le_of_ble_eq_true rfl) dX5_accept_92 (fun H locs hP hD hS => ?_)
              have hP : va_P D vwCl [(u, .inr (5, [_, _, _]))] H := hP
              have hD : va_D A [(u, .inr (5, [_, _, _]))] := hD
              refine lv_aload_n hx hb dX5_accept_95 rfl (lv_at hl 0 rfl) ?_
              refine lv_iconst (v := 0) hx hb dX5_accept_96 (by decide) ?_
              refine va_put (D := D) (ci := 5) (ty := .int) (C := RX5) (T := TX5) (N := 3) hx hb hts in_X5 tyX5 tyX5_ok nmX5 hown hK hP hD hS 0 rfl rfl 1 (by decide) fl_13 (fun _ h9 => h9) rfl (by decide +kernel) rfl rfl (Nat.le_of_ble_eq_true rfl) dX5_accept_97 (fun H locs hP hD hS => ?_)
              have hP : va_P D vwCl [(u, .inr (5, [_, _, _]))] H := hP
              have hD : va_D A [(u, .inr (5, [_, _, _]))] := hD
              refine lv_goto (tgt := 134) hx hb dX5_accept_100 (by decide) ?_
              refine lv_aload_n hx hb dX5_accept_134 rfl (lv_at hl 0 rfl) ?_
              refine lv_dup hx hb dX5_accept_135 rfl ?_
              refine va_get (D := D) (ci := 5) (C := RX5) (T := TX5) (N := 3) hx hb hts in_X5 hown hK hP 0 rfl rfl 2 (by decide) fl_16 (fun _ h9 => h9) rfl dX5_accept_136 ?_
              refine lv_iconst (v := 1) hx hb dX5_accept_139 (by decide) ?_
              refine lv_iadd hx hb dX5_accept_140 ?_
              refine va_put (D := D) (ci := 5) (ty := .int) (C := RX5) (T := TX5) (N := 3) hx hb hts in_X5 tyX5 tyX5_ok nmX5 hown hK hP hD hS 0 rfl rfl 2 (by decide) fl_16 (fun _ h9 => h9) rfl (by decide +kernel) rfl rfl (Nat.le_of_ble_eq_true rfl) dX5_accept_141 (fun H locs hP hD hS => ?_)
              have hP : va_P D vwCl [(u, .inr (5, [_, _, _]))] H := hP
              have hD : va_D A [(u, .inr (5, [_, _, _]))] := hD
              refine lv_iconst (v := 1) hx hb dX5_accept_144 (by decide) ?_
              exact mu_zret X hP hS (by simp_all [sumA, bI]) (by simp_all [sumA, bI]) dX5_accept_145
    · refine lv_aload_n hx hb dX5_accept_20 rfl (lv_at hl 0 rfl) ?_
      refine va_get (D := D) (ci := 5) (C := RX5) (T := TX5) (N := 3) hx hb hts in_X5 hown hK hP 0 rfl rfl 1 (by decide) fl_13 (fun _ h9 => h9) rfl dX5_accept_21 ?_
      refine lv_iconst (v := 1) hx hb dX5_accept_24 (by decide) ?_
      refine lv_icmp_lt (tgt := 51) hx hb dX5_accept_25 (by decide) (fun c_25 => ?_) (fun c_25 => ?_)
      · refine lv_iload_n hx hb dX5_accept_51 rfl (lv_at hl 1 rfl) ?_
        refine lv_sipush (v := 1000) hx hb dX5_accept_52 (by decide) ?_
        refine lv_icmp_ne (tgt := 103) hx hb dX5_accept_55 (by decide) (fun c_55 => ?_) (fun c_55 => ?_)
        · refine lv_aload_n hx hb dX5_accept_103 rfl (lv_at hl 0 rfl) ?_
          refine lv_iload_n hx hb dX5_accept_104 rfl (lv_at hl 1 rfl) ?_
          refine ro_V (n := 1) X hK (c_X5_fitsBelowHundred) gX5_accept_X5_fitsBelowHundred rfl (by decide +kernel) ⟨rfl, rfl⟩ ⟨Nat.le_of_ble_eq_true rfl, Nat.le_of_ble_eq_true rfl⟩ (hP.sub [0] rfl) (va_recv hK hP (ci := 5) (q0 := 0) rfl rfl) rfl hl.1 rfl (Nat.le_of_ble_eq_true rfl) dX5_accept_105 ⟨Nat.zero_le _, Nat.zero_le _⟩ ?_
          refine lv_if_ne (tgt := 119) hx hb dX5_accept_108 (by decide) (fun c_108 => ?_) (fun c_108 => ?_)
          · replace c_108 := bI_n0.mp c_108
            refine lv_aload_n hx hb dX5_accept_119 rfl (lv_at hl 0 rfl) ?_
            refine lv_dup hx hb dX5_accept_120 rfl ?_
            refine va_get (D := D) (ci := 5) (C := RX5) (T := TX5) (N := 3) hx hb hts in_X5 hown hK hP 0 rfl rfl 1 (by decide) fl_13 (fun _ h9 => h9) rfl dX5_accept_121 ?_
            refine lv_iload_n hx hb dX5_accept_124 rfl (lv_at hl 1 rfl) ?_
            refine lv_iadd hx hb dX5_accept_125 ?_
            refine va_put (D := D) (ci := 5) (ty := .int) (C := RX5) (T := TX5) (N := 3) hx hb hts in_X5 tyX5 tyX5_ok nmX5 hown hK hP hD hS 0 rfl rfl 1 (by decide) fl_13 (fun _ h9 => h9) rfl (by decide +kernel) rfl rfl (Nat.le_of_ble_eq_true rfl) dX5_accept_126 (fun H locs hP hD hS => ?_)
            have hP : va_P D vwCl [(u, .inr (5, [_, _, _]))] H := hP
            have hD : va_D A [(u, .inr (5, [_, _, _]))] := hD
            refine lv_goto (tgt := 134) hx hb dX5_accept_129 (by decide) ?_
            refine lv_aload_n hx hb dX5_accept_134 rfl (lv_at hl 0 rfl) ?_
            refine lv_dup hx hb dX5_accept_135 rfl ?_
            refine va_get (D := D) (ci := 5) (C := RX5) (T := TX5) (N := 3) hx hb hts in_X5 hown hK hP 0 rfl rfl 2 (by decide) fl_16 (fun _ h9 => h9) rfl dX5_accept_136 ?_
            refine lv_iconst (v := 1) hx hb dX5_accept_139 (by decide) ?_
            refine lv_iadd hx hb dX5_accept_140 ?_
            refine va_put (D := D) (ci := 5) (ty := .int) (C := RX5) (T := TX5) (N := 3) hx hb hts in_X5 tyX5 tyX5_ok nmX5 hown hK hP hD hS 0 rfl rfl 2 (by decide) fl_16 (fun _ h9 => h9) rfl (by decide +kernel) rfl rfl (Nat.le_of_ble_eq_true rfl) dX5_accept_141 (fun H locs hP hD hS => ?_)
            have hP : va_P D vwCl [(u, .inr (5, [_, _, _]))] H := hP
            have hD : va_D A [(u, .inr (5, [_, _, _]))] := hD
            refine lv_iconst (v := 1) hx hb dX5_accept_144 (by decide) ?_
            exact mu_zret X hP hS (by simp_all [sumA, bI]) (by simp_all [sumA, bI]) dX5_accept_145
          · replace c_108 := bI_0.mp c_108
            refine lv_aload_n hx hb dX5_accept_111 rfl (lv_at hl 0 rfl) ?_
            refine lv_iload_n hx hb dX5_accept_112 rfl (lv_at hl 1 rfl) ?_
            refine ro_V (n := 1) X hK (c_X5_fitsBelowTen) gX5_accept_X5_fitsBelowTen rfl (by decide +kernel) ⟨rfl, rfl⟩ ⟨Nat.le_of_ble_eq_true rfl, Nat.le_of_ble_eq_true rfl⟩ (hP.sub [0] rfl) (va_recv hK hP (ci := 5) (q0 := 0) rfl rfl) rfl hl.1 rfl (Nat.le_of_ble_eq_true rfl) dX5_accept_113 ⟨Nat.zero_le _, Nat.zero_le _⟩ ?_
            refine lv_if_eq (tgt := 132) hx hb dX5_accept_116 (by decide) (fun c_116 => ?_) (fun c_116 => ?_)
            · replace c_116 := bI_0.mp c_116
              refine lv_iconst (v := 0) hx hb dX5_accept_132 (by decide) ?_
              exact mu_zret X hP hS (by simp_all [sumA, bI]) (by simp_all [sumA, bI]) dX5_accept_133
            · replace c_116 := bI_n0.mp c_116
              refine lv_aload_n hx hb dX5_accept_119 rfl (lv_at hl 0 rfl) ?_
              refine lv_dup hx hb dX5_accept_120 rfl ?_
              refine va_get (D := D) (ci := 5) (C := RX5) (T := TX5) (N := 3) hx hb hts in_X5 hown hK hP 0 rfl rfl 1 (by decide) fl_13 (fun _ h9 => h9) rfl dX5_accept_121 ?_
              refine lv_iload_n hx hb dX5_accept_124 rfl (lv_at hl 1 rfl) ?_
              refine lv_iadd hx hb dX5_accept_125 ?_
              refine va_put (D := D) (ci := 5) (ty := .int) (C := RX5) (T := TX5) (N := 3) hx hb hts in_X5 tyX5 tyX5_ok nmX5 hown hK hP hD hS 0 rfl rfl 1 (by decide) fl_13 (fun _ h9 => h9) rfl (by decide +kernel) rfl rfl (Nat.le_of_ble_eq_true rfl) dX5_accept_126 (fun H locs hP hD hS => ?_)
              have hP : va_P D vwCl [(u, .inr (5, [_, _, _]))] H := hP
              have hD : va_D A [(u, .inr (5, [_, _, _]))] := hD
              refine lv_goto (tgt := 134) hx hb dX5_accept_129 (by decide) ?_
              refine lv_aload_n hx hb dX5_accept_134 rfl (lv_at hl 0 rfl) ?_
              refine lv_dup hx hb dX5_accept_135 rfl ?_
              refine va_get (D := D) (ci := 5) (C := RX5) (T := TX5) (N := 3) hx hb hts in_X5 hown hK hP 0 rfl rfl 2 (by decide) fl_16 (fun _ h9 => h9) rfl dX5_accept_136 ?_
              refine lv_iconst (v := 1) hx hb dX5_accept_139 (by decide) ?_
              refine lv_iadd hx hb dX5_accept_140 ?_
              refine va_put (D := D) (ci := 5) (ty := .int) (C := RX5) (T := TX5) (N := 3) hx hb hts in_X5 tyX5 tyX5_ok nmX5 hown hK hP hD hS 0 rfl rfl 2 (by decide) fl_16 (fun _ h9 => h9) rfl (by decide +kernel) rfl rfl (Nat.le_of_ble_eq_true rfl) dX5_accept_141 (fun H locs hP hD hS => ?_)
              have hP : va_P D vwCl [(u, .inr (5, [_, _, _]))] H := hP
              have hD : va_D A [(u, .inr (5, [_, _, _]))] := hD
              refine lv_iconst (v := 1) hx hb dX5_accept_144 (by decide) ?_
              exact mu_zret X hP hS (by simp_all [sumA, bI]) (by simp_all [sumA, bI]) dX5_accept_145
        · refine lv_aload_n hx hb dX5_accept_58 rfl (lv_at hl 0 rfl) ?_
          refine va_get (D := D) (ci := 5) (C := RX5) (T := TX5) (N := 3) hx hb hts in_X5 hown hK hP 0 rfl rfl 1 (by decide) fl_13 (fun _ h9 => h9) rfl dX5_accept_59 ?_
          refine lv_iconst (v := 1) hx hb dX5_accept_62 (by decide) ?_
          refine lv_icmp_lt (tgt := 103) hx hb dX5_accept_63 (by decide) (fun c_63 => ?_) (fun c_63 => ?_)
          · refine lv_aload_n hx hb dX5_accept_103 rfl (lv_at hl 0 rfl) ?_
            refine lv_iload_n hx hb dX5_accept_104 rfl (lv_at hl 1 rfl) ?_
            refine ro_V (n := 1) X hK (c_X5_fitsBelowHundred) gX5_accept_X5_fitsBelowHundred rfl (by decide +kernel) ⟨rfl, rfl⟩ ⟨Nat.le_of_ble_eq_true rfl, Nat.le_of_ble_eq_true rfl⟩ (hP.sub [0] rfl) (va_recv hK hP (ci := 5) (q0 := 0) rfl rfl) rfl hl.1 rfl (Nat.le_of_ble_eq_true rfl) dX5_accept_105 ⟨Nat.zero_le _, Nat.zero_le _⟩ ?_
            refine lv_if_ne (tgt := 119) hx hb dX5_accept_108 (by decide) (fun c_108 => ?_) (fun c_108 => ?_)
            · replace c_108 := bI_n0.mp c_108
              refine lv_aload_n hx hb dX5_accept_119 rfl (lv_at hl 0 rfl) ?_
              refine lv_dup hx hb dX5_accept_120 rfl ?_
              refine va_get (D := D) (ci := 5) (C := RX5) (T := TX5) (N := 3) hx hb hts in_X5 hown hK hP 0 rfl rfl 1 (by decide) fl_13 (fun _ h9 => h9) rfl dX5_accept_121 ?_
              refine lv_iload_n hx hb dX5_accept_124 rfl (lv_at hl 1 rfl) ?_
              refine lv_iadd hx hb dX5_accept_125 ?_
              refine va_put (D := D) (ci := 5) (ty := .int) (C := RX5) (T := TX5) (N := 3) hx hb hts in_X5 tyX5 tyX5_ok nmX5 hown hK hP hD hS 0 rfl rfl 1 (by decide) fl_13 (fun _ h9 => h9) rfl (by decide +kernel) rfl rfl (Nat.le_of_ble_eq_true rfl) dX5_accept_126 (fun H locs hP hD hS => ?_)
              have hP : va_P D vwCl [(u, .inr (5, [_, _, _]))] H := hP
              have hD : va_D A [(u, .inr (5, [_, _, _]))] := hD
              refine lv_goto (tgt := 134) hx hb dX5_accept_129 (by decide) ?_
              refine lv_aload_n hx hb dX5_accept_134 rfl (lv_at hl 0 rfl) ?_
              refine lv_dup hx hb dX5_accept_135 rfl ?_
              refine va_get (D := D) (ci := 5) (C := RX5) (T := TX5) (N := 3) hx hb hts in_X5 hown hK hP 0 rfl rfl 2 (by decide) fl_16 (fun _ h9 => h9) rfl dX5_accept_136 ?_
              refine lv_iconst (v := 1) hx hb dX5_accept_139 (by decide) ?_
              refine lv_iadd hx hb dX5_accept_140 ?_
              refine va_put (D := D) (ci := 5) (ty := .int) (C := RX5) (T := TX5) (N := 3) hx hb hts in_X5 tyX5 tyX5_ok nmX5 hown hK hP hD hS 0 rfl rfl 2 (by decide) fl_16 (fun _ h9 => h9) rfl (by decide +kernel) rfl rfl (Nat.le_of_ble_eq_true rfl) dX5_accept_141 (fun H locs hP hD hS => ?_)
              have hP : va_P D vwCl [(u, .inr (5, [_, _, _]))] H := hP
              have hD : va_D A [(u, .inr (5, [_, _, _]))] := hD
              refine lv_iconst (v := 1) hx hb dX5_accept_144 (by decide) ?_
              exact mu_zret X hP hS (by simp_all [sumA, bI]) (by simp_all [sumA, bI]) dX5_accept_145
            · replace c_108 := bI_0.mp c_108
              refine lv_aload_n hx hb dX5_accept_111 rfl (lv_at hl 0 rfl) ?_
              refine lv_iload_n hx hb dX5_accept_112 rfl (lv_at hl 1 rfl) ?_
              refine ro_V (n := 1) X hK (c_X5_fitsBelowTen) gX5_accept_X5_fitsBelowTen rfl (by decide +kernel) ⟨rfl, rfl⟩ ⟨Nat.le_of_ble_eq_true rfl, Nat.le_of_ble_eq_true rfl⟩ (hP.sub [0] rfl) (va_recv hK hP (ci := 5) (q0 := 0) rfl rfl) rfl hl.1 rfl (Nat.le_of_ble_eq_true rfl) dX5_accept_113 ⟨Nat.zero_le _, Nat.zero_le _⟩ ?_
              refine lv_if_eq (tgt := 132) hx hb dX5_accept_116 (by decide) (fun c_116 => ?_) (fun c_116 => ?_)
              · replace c_116 := bI_0.mp c_116
                refine lv_iconst (v := 0) hx hb dX5_accept_132 (by decide) ?_
                exact mu_zret X hP hS (by simp_all [sumA, bI]) (by simp_all [sumA, bI]) dX5_accept_133
              · replace c_116 := bI_n0.mp c_116
                refine lv_aload_n hx hb dX5_accept_119 rfl (lv_at hl 0 rfl) ?_
                refine lv_dup hx hb dX5_accept_120 rfl ?_
                refine va_get (D := D) (ci := 5) (C := RX5) (T := TX5) (N := 3) hx hb hts in_X5 hown hK hP 0 rfl rfl 1 (by decide) fl_13 (fun _ h9 => h9) rfl dX5_accept_121 ?_
                refine lv_iload_n hx hb dX5_accept_124 rfl (lv_at hl 1 rfl) ?_
                refine lv_iadd hx hb dX5_accept_125 ?_
                refine va_put (D := D) (ci := 5) (ty := .int) (C := RX5) (T := TX5) (N := 3) hx hb hts in_X5 tyX5 tyX5_ok nmX5 hown hK hP hD hS 0 rfl rfl 1 (by decide) fl_13 (fun _ h9 => h9) rfl (by decide +kernel) rfl rfl (Nat.le_of_ble_eq_true rfl) dX5_accept_126 (fun H locs hP hD hS => ?_)
                have hP : va_P D vwCl [(u, .inr (5, [_, _, _]))] H := hP
                have hD : va_D A [(u, .inr (5, [_, _, _]))] := hD
                refine lv_goto (tgt := 134) hx hb dX5_accept_129 (by decide) ?_
                refine lv_aload_n hx hb dX5_accept_134 rfl (lv_at hl 0 rfl) ?_
                refine lv_dup hx hb dX5_accept_135 rfl ?_
                refine va_get (D := D) (ci := 5) (C := RX5) (T := TX5) (N := 3) hx hb hts in_X5 hown hK hP 0 rfl rfl 2 (by decide) fl_16 (fun _ h9 => h9) rfl dX5_accept_136 ?_
                refine lv_iconst (v := 1) hx hb dX5_accept_139 (by decide) ?_
                refine lv_iadd hx hb dX5_accept_140 ?_
                refine va_put (D := D) (ci := 5) (ty := .int) (C := RX5) (T := TX5) (N := 3) hx hb hts in_X5 tyX5 tyX5_ok nmX5 hown hK hP hD hS 0 rfl rfl 2 (by decide) fl_16 (fun _ h9 => h9) rfl (by decide +kernel) rfl rfl (Nat.le_of_ble_eq_true rfl) dX5_accept_141 (fun H locs hP hD hS => ?_)
                have hP : va_P D vwCl [(u, .inr (5, [_, _, _]))] H := hP
                have hD : va_D A [(u, .inr (5, [_, _, _]))] := hD
                refine lv_iconst (v := 1) hx hb dX5_accept_144 (by decide) ?_
                exact mu_zret X hP hS (by simp_all [sumA, bI]) (by simp_all [sumA, bI]) dX5_accept_145
          · refine lv_aload_n hx hb dX5_accept_66 rfl (lv_at hl 0 rfl) ?_
            refine va_get (D := D) (ci := 5) (C := RX5) (T := TX5) (N := 3) hx hb hts in_X5 hown hK hP 0 rfl rfl 1 (by decide) fl_13 (fun _ h9 => h9) rfl dX5_accept_67 ?_
            refine lv_sipush (v := 999) hx hb dX5_accept_70 (by decide) ?_
            refine lv_icmp_gt (tgt := 103) hx hb dX5_accept_73 (by decide) (fun c_73 => ?_) (fun c_73 => ?_)
            · refine lv_aload_n hx hb dX5_accept_103 rfl (lv_at hl 0 rfl) ?_
              refine lv_iload_n hx hb dX5_accept_104 rfl (lv_at hl 1 rfl) ?_
              refine ro_V (n := 1) X hK (c_X5_fitsBelowHundred) gX5_accept_X5_fitsBelowHundred rfl (by decide +kernel) ⟨rfl, rfl⟩ ⟨Nat.le_of_ble_eq_true rfl, Nat.le_of_ble_eq_true rfl⟩ (hP.sub [0] rfl) (va_recv hK hP (ci := 5) (q0 := 0) rfl rfl) rfl hl.1 rfl (Nat.le_of_ble_eq_true rfl) dX5_accept_105 ⟨Nat.zero_le _, Nat.zero_le _⟩ ?_
              refine lv_if_ne (tgt := 119) hx hb dX5_accept_108 (by decide) (fun c_108 => ?_) (fun c_108 => ?_)
              · replace c_108 := bI_n0.mp c_108
                refine lv_aload_n hx hb dX5_accept_119 rfl (lv_at hl 0 rfl) ?_
                refine lv_dup hx hb dX5_accept_120 rfl ?_
                refine va_get (D := D) (ci := 5) (C := RX5) (T := TX5) (N := 3) hx hb hts in_X5 hown hK hP 0 rfl rfl 1 (by decide) fl_13 (fun _ h9 => h9) rfl dX5_accept_121 ?_
                refine lv_iload_n hx hb dX5_accept_124 rfl (lv_at hl 1 rfl) ?_
                refine lv_iadd hx hb dX5_accept_125 ?_
                refine va_put (D := D) (ci := 5) (ty := .int) (C := RX5) (T := TX5) (N := 3) hx hb hts in_X5 tyX5 tyX5_ok nmX5 hown hK hP hD hS 0 rfl rfl 1 (by decide) fl_13 (fun _ h9 => h9) rfl (by decide +kernel) rfl rfl (Nat.le_of_ble_eq_true rfl) dX5_accept_126 (fun H locs hP hD hS => ?_)
                have hP : va_P D vwCl [(u, .inr (5, [_, _, _]))] H := hP
                have hD : va_D A [(u, .inr (5, [_, _, _]))] := hD
                refine lv_goto (tgt := 134) hx hb dX5_accept_129 (by decide) ?_
                refine lv_aload_n hx hb dX5_accept_134 rfl (lv_at hl 0 rfl) ?_
                refine lv_dup hx hb dX5_accept_135 rfl ?_
                refine va_get (D := D) (ci := 5) (C := RX5) (T := TX5) (N := 3) hx hb hts in_X5 hown hK hP 0 rfl rfl 2 (by decide) fl_16 (fun _ h9 => h9) rfl dX5_accept_136 ?_
                refine lv_iconst (v := 1) hx hb dX5_accept_139 (by decide) ?_
                refine lv_iadd hx hb dX5_accept_140 ?_
                refine va_put (D := D) (ci := 5) (ty := .int) (C := RX5) (T := TX5) (N := 3) hx hb hts in_X5 tyX5 tyX5_ok nmX5 hown hK hP hD hS 0 rfl rfl 2 (by decide) fl_16 (fun _ h9 => h9) rfl (by decide +kernel) rfl rfl (Nat.le_of_ble_eq_true rfl) dX5_accept_141 (fun H locs hP hD hS => ?_)
                have hP : va_P D vwCl [(u, .inr (5, [_, _, _]))] H := hP
                have hD : va_D A [(u, .inr (5, [_, _, _]))] := hD
                refine lv_iconst (v := 1) hx hb dX5_accept_144 (by decide) ?_
                exact mu_zret X hP hS (by simp_all [sumA, bI]) (by simp_all [sumA, bI]) dX5_accept_145
              · replace c_108 := bI_0.mp c_108
                refine lv_aload_n hx hb dX5_accept_111 rfl (lv_at hl 0 rfl) ?_
                refine lv_iload_n hx hb dX5_accept_112 rfl (lv_at hl 1 rfl) ?_
                refine ro_V (n := 1) X hK (c_X5_fitsBelowTen) gX5_accept_X5_fitsBelowTen rfl (by decide +kernel) ⟨rfl, rfl⟩ ⟨Nat.le_of_ble_eq_true rfl, Nat.le_of_ble_eq_true rfl⟩ (hP.sub [0] rfl) (va_recv hK hP (ci := 5) (q0 := 0) rfl rfl) rfl hl.1 rfl (Nat.le_of_ble_eq_true rfl) dX5_accept_113 ⟨Nat.zero_le _, Nat.zero_le _⟩ ?_
                refine lv_if_eq (tgt := 132) hx hb dX5_accept_116 (by decide) (fun c_116 => ?_) (fun c_116 => ?_)
                · replace c_116 := bI_0.mp c_116
                  refine lv_iconst (v := 0) hx hb dX5_accept_132 (by decide) ?_
                  exact mu_zret X hP hS (by simp_all [sumA, bI]) (by simp_all [sumA, bI]) dX5_accept_133
                · replace c_116 := bI_n0.mp c_116
                  refine lv_aload_n hx hb dX5_accept_119 rfl (lv_at hl 0 rfl) ?_
                  refine lv_dup hx hb dX5_accept_120 rfl ?_
                  refine va_get (D := D) (ci := 5) (C := RX5) (T := TX5) (N := 3) hx hb hts in_X5 hown hK hP 0 rfl rfl 1 (by decide) fl_13 (fun _ h9 => h9) rfl dX5_accept_121 ?_
                  refine lv_iload_n hx hb dX5_accept_124 rfl (lv_at hl 1 rfl) ?_
                  refine lv_iadd hx hb dX5_accept_125 ?_
                  refine va_put (D := D) (ci := 5) (ty := .int) (C := RX5) (T := TX5) (N := 3) hx hb hts in_X5 tyX5 tyX5_ok nmX5 hown hK hP hD hS 0 rfl rfl 1 (by decide) fl_13 (fun _ h9 => h9) rfl (by decide +kernel) rfl rfl (Nat.le_of_ble_eq_true rfl) dX5_accept_126 (fun H locs hP hD hS => ?_)
                  have hP : va_P D vwCl [(u, .inr (5, [_, _, _]))] H := hP
                  have hD : va_D A [(u, .inr (5, [_, _, _]))] := hD
                  refine lv_goto (tgt := 134) hx hb dX5_accept_129 (by decide) ?_
                  refine lv_aload_n hx hb dX5_accept_134 rfl (lv_at hl 0 rfl) ?_
                  refine lv_dup hx hb dX5_accept_135 rfl ?_
                  refine va_get (D := D) (ci := 5) (C := RX5) (T := TX5) (N := 3) hx hb hts in_X5 hown hK hP 0 rfl rfl 2 (by decide) fl_16 (fun _ h9 => h9) rfl dX5_accept_136 ?_
                  refine lv_iconst (v := 1) hx hb dX5_accept_139 (by decide) ?_
                  refine lv_iadd hx hb dX5_accept_140 ?_
                  refine va_put (D := D) (ci := 5) (ty := .int) (C := RX5) (T := TX5) (N := 3) hx hb hts in_X5 tyX5 tyX5_ok nmX5 hown hK hP hD hS 0 rfl rfl 2 (by decide) fl_16 (fun _ h9 => h9) rfl (by decide +kernel) rfl rfl (Nat.le_of_ble_eq_true rfl) dX5_accept_141 (fun H locs hP hD hS => ?_)
                  have hP : va_P D vwCl [(u, .inr (5, [_, _, _]))] H := hP
                  have hD : va_D A [(u, .inr (5, [_, _, _]))] := hD
                  refine lv_iconst (v := 1) hx hb dX5_accept_144 (by decide) ?_
                  exact mu_zret X hP hS (by simp_all [sumA, bI]) (by simp_all [sumA, bI]) dX5_accept_145
            · refine lv_aload_n hx hb dX5_accept_76 rfl (lv_at hl 0 rfl) ?_
              refine va_get (D := D) (ci := 5) (C := RX5) (T := TX5) (N := 3) hx hb hts in_X5 hown hK hP 0 rfl rfl 0 (by decide) fl_7 (fun _ h9 => h9) rfl dX5_accept_77 ?_
              refine lv_if_ne (tgt := 103) hx hb dX5_accept_80 (by decide) (fun c_80 => ?_) (fun c_80 => ?_)
              · refine lv_aload_n hx hb dX5_accept_103 rfl (lv_at hl 0 rfl) ?_
                refine lv_iload_n hx hb dX5_accept_104 rfl (lv_at hl 1 rfl) ?_
                refine ro_V (n := 1) X hK (c_X5_fitsBelowHundred) gX5_accept_X5_fitsBelowHundred rfl (by decide +kernel) ⟨rfl, rfl⟩ ⟨Nat.le_of_ble_eq_true rfl, Nat.le_of_ble_eq_true rfl⟩ (hP.sub [0] rfl) (va_recv hK hP (ci := 5) (q0 := 0) rfl rfl) rfl hl.1 rfl (Nat.le_of_ble_eq_true rfl) dX5_accept_105 ⟨Nat.zero_le _, Nat.zero_le _⟩ ?_
                refine lv_if_ne (tgt := 119) hx hb dX5_accept_108 (by decide) (fun c_108 => ?_) (fun c_108 => ?_)
                · replace c_108 := bI_n0.mp c_108
                  refine lv_aload_n hx hb dX5_accept_119 rfl (lv_at hl 0 rfl) ?_
                  refine lv_dup hx hb dX5_accept_120 rfl ?_
                  refine va_get (D := D) (ci := 5) (C := RX5) (T := TX5) (N := 3) hx hb hts in_X5 hown hK hP 0 rfl rfl 1 (by decide) fl_13 (fun _ h9 => h9) rfl dX5_accept_121 ?_
                  refine lv_iload_n hx hb dX5_accept_124 rfl (lv_at hl 1 rfl) ?_
                  refine lv_iadd hx hb dX5_accept_125 ?_
                  refine va_put (D := D) (ci := 5) (ty := .int) (C := RX5) (T := TX5) (N := 3) hx hb hts in_X5 tyX5 tyX5_ok nmX5 hown hK hP hD hS 0 rfl rfl 1 (by decide) fl_13 (fun _ h9 => h9) rfl (by decide +kernel) rfl rfl (Nat.le_of_ble_eq_true rfl) dX5_accept_126 (fun H locs hP hD hS => ?_)
                  have hP : va_P D vwCl [(u, .inr (5, [_, _, _]))] H := hP
                  have hD : va_D A [(u, .inr (5, [_, _, _]))] := hD
                  refine lv_goto (tgt := 134) hx hb dX5_accept_129 (by decide) ?_
                  refine lv_aload_n hx hb dX5_accept_134 rfl (lv_at hl 0 rfl) ?_
                  refine lv_dup hx hb dX5_accept_135 rfl ?_
                  refine va_get (D := D) (ci := 5) (C := RX5) (T := TX5) (N := 3) hx hb hts in_X5 hown hK hP 0 rfl rfl 2 (by decide) fl_16 (fun _ h9 => h9) rfl dX5_accept_136 ?_
                  refine lv_iconst (v := 1) hx hb dX5_accept_139 (by decide) ?_
                  refine lv_iadd hx hb dX5_accept_140 ?_
                  refine va_put (D := D) (ci := 5) (ty := .int) (C := RX5) (T := TX5) (N := 3) hx hb hts in_X5 tyX5 tyX5_ok nmX5 hown hK hP hD hS 0 rfl rfl 2 (by decide) fl_16 (fun _ h9 => h9) rfl (by decide +kernel) rfl rfl (Nat.le_of_ble_eq_true rfl) dX5_accept_141 (fun H locs hP hD hS => ?_)
                  have hP : va_P D vwCl [(u, .inr (5, [_, _, _]))] H := hP
                  have hD : va_D A [(u, .inr (5, [_, _, _]))] := hD
                  refine lv_iconst (v := 1) hx hb dX5_accept_144 (by decide) ?_
                  exact mu_zret X hP hS (by simp_all [sumA, bI]) (by simp_all [sumA, bI]) dX5_accept_145
                · replace c_108 := bI_0.mp c_108
                  refine lv_aload_n hx hb dX5_accept_111 rfl (lv_at hl 0 rfl) ?_
                  refine lv_iload_n hx hb dX5_accept_112 rfl (lv_at hl 1 rfl) ?_
                  refine ro_V (n := 1) X hK (c_X5_fitsBelowTen) gX5_accept_X5_fitsBelowTen rfl (by decide +kernel) ⟨rfl, rfl⟩ ⟨Nat.le_of_ble_eq_true rfl, Nat.le_of_ble_eq_true rfl⟩ (hP.sub [0] rfl) (va_recv hK hP (ci := 5) (q0 := 0) rfl rfl) rfl hl.1 rfl (Nat.le_of_ble_eq_true rfl) dX5_accept_113 ⟨Nat.zero_le _, Nat.zero_le _⟩ ?_
                  refine lv_if_eq (tgt := 132) hx hb dX5_accept_116 (by decide) (fun c_116 => ?_) (fun c_116 => ?_)
                  · replace c_116 := bI_0.mp c_116
                    refine lv_iconst (v := 0) hx hb dX5_accept_132 (by decide) ?_
                    exact mu_zret X hP hS (by simp_all [sumA, bI]) (by simp_all [sumA, bI]) dX5_accept_133
                  · replace c_116 := bI_n0.mp c_116
                    refine lv_aload_n hx hb dX5_accept_119 rfl (lv_at hl 0 rfl) ?_
                    refine lv_dup hx hb dX5_accept_120 rfl ?_
                    refine va_get (D := D) (ci := 5) (C := RX5) (T := TX5) (N := 3) hx hb hts in_X5 hown hK hP 0 rfl rfl 1 (by decide) fl_13 (fun _ h9 => h9) rfl dX5_accept_121 ?_
                    refine lv_iload_n hx hb dX5_accept_124 rfl (lv_at hl 1 rfl) ?_
                    refine lv_iadd hx hb dX5_accept_125 ?_
                    refine va_put (D := D) (ci := 5) (ty := .int) (C := RX5) (T := TX5) (N := 3) hx hb hts in_X5 tyX5 tyX5_ok nmX5 hown hK hP hD hS 0 rfl rfl 1 (by decide) fl_13 (fun _ h9 => h9) rfl (by decide +kernel) rfl rfl (Nat.le_of_ble_eq_true rfl) dX5_accept_126 (fun H locs hP hD hS => ?_)
                    have hP : va_P D vwCl [(u, .inr (5, [_, _, _]))] H := hP
                    have hD : va_D A [(u, .inr (5, [_, _, _]))] := hD
                    refine lv_goto (tgt := 134) hx hb dX5_accept_129 (by decide) ?_
                    refine lv_aload_n hx hb dX5_accept_134 rfl (lv_at hl 0 rfl) ?_
                    refine lv_dup hx hb dX5_accept_135 rfl ?_
                    refine va_get (D := D) (ci := 5) (C := RX5) (T := TX5) (N := 3) hx hb hts in_X5 hown hK hP 0 rfl rfl 2 (by decide) fl_16 (fun _ h9 => h9) rfl dX5_accept_136 ?_
                    refine lv_iconst (v := 1) hx hb dX5_accept_139 (by decide) ?_
                    refine lv_iadd hx hb dX5_accept_140 ?_
                    refine va_put (D := D) (ci := 5) (ty := .int) (C := RX5) (T := TX5) (N := 3) hx hb hts in_X5 tyX5 tyX5_ok nmX5 hown hK hP hD hS 0 rfl rfl 2 (by decide) fl_16 (fun _ h9 => h9) rfl (by decide +kernel) rfl rfl (Nat.le_of_ble_eq_true rfl) dX5_accept_141 (fun H locs hP hD hS => ?_)
                    have hP : va_P D vwCl [(u, .inr (5, [_, _, _]))] H := hP
                    have hD : va_D A [(u, .inr (5, [_, _, _]))] := hD
                    refine lv_iconst (v := 1) hx hb dX5_accept_144 (by decide) ?_
                    exact mu_zret X hP hS (by simp_all [sumA, bI]) (by simp_all [sumA, bI]) dX5_accept_145
              · refine lv_aload_n hx hb dX5_accept_83 rfl (lv_at hl 0 rfl) ?_
                refine lv_sipush (v := 1000) hx hb dX5_accept_84 (by decide) ?_
                refine lv_aload_n hx hb dX5_accept_87 rfl (lv_at hl 0 rfl) ?_
                refine va_get (D := D) (ci := 5) (C := RX5) (T := TX5) (N := 3) hx hb hts in_X5 hown hK hP 0 rfl rfl 1 (by decide) fl_13 (fun _ h9 => h9) rfl dX5_accept_88 ?_
                refine lv_imul hx hb dX5_accept_91 ?_
                refine va_put (D := D) (ci := 5) (ty := .int) (C := RX5) (T := TX5) (N := 3) hx hb hts in_X5 tyX5 tyX5_ok nmX5 hown hK hP hD hS 0 rfl rfl 0 (by decide) fl_7 (fun _ h9 => h9) rfl (by decide +kernel) rfl rfl (Nat.le_of_ble_eq_true rfl) dX5_accept_92 (fun H locs hP hD hS => ?_)
                have hP : va_P D vwCl [(u, .inr (5, [_, _, _]))] H := hP
                have hD : va_D A [(u, .inr (5, [_, _, _]))] := hD
                refine lv_aload_n hx hb dX5_accept_95 rfl (lv_at hl 0 rfl) ?_
                refine lv_iconst (v := 0) hx hb dX5_accept_96 (by decide) ?_
                refine va_put (D := D) (ci := 5) (ty := .int) (C := RX5) (T := TX5) (N := 3) hx hb hts in_X5 tyX5 tyX5_ok nmX5 hown hK hP hD hS 0 rfl rfl 1 (by decide) fl_13 (fun _ h9 => h9) rfl (by decide +kernel) rfl rfl (Nat.le_of_ble_eq_true rfl) dX5_accept_97 (fun H locs hP hD hS => ?_)
                have hP : va_P D vwCl [(u, .inr (5, [_, _, _]))] H := hP
                have hD : va_D A [(u, .inr (5, [_, _, _]))] := hD
                refine lv_goto (tgt := 134) hx hb dX5_accept_100 (by decide) ?_
                refine lv_aload_n hx hb dX5_accept_134 rfl (lv_at hl 0 rfl) ?_
                refine lv_dup hx hb dX5_accept_135 rfl ?_
                refine va_get (D := D) (ci := 5) (C := RX5) (T := TX5) (N := 3) hx hb hts in_X5 hown hK hP 0 rfl rfl 2 (by decide) fl_16 (fun _ h9 => h9) rfl dX5_accept_136 ?_
                refine lv_iconst (v := 1) hx hb dX5_accept_139 (by decide) ?_
                refine lv_iadd hx hb dX5_accept_140 ?_
                refine va_put (D := D) (ci := 5) (ty := .int) (C := RX5) (T := TX5) (N := 3) hx hb hts in_X5 tyX5 tyX5_ok nmX5 hown hK hP hD hS 0 rfl rfl 2 (by decide) fl_16 (fun _ h9 => h9) rfl (by decide +kernel) rfl rfl (Nat.le_of_ble_eq_true rfl) dX5_accept_141 (fun H locs hP hD hS => ?_)
                have hP : va_P D vwCl [(u, .inr (5, [_, _, _]))] H := hP
                have hD : va_D A [(u, .inr (5, [_, _, _]))] := hD
                refine lv_iconst (v := 1) hx hb dX5_accept_144 (by decide) ?_
                exact mu_zret X hP hS (by simp_all [sumA, bI]) (by simp_all [sumA, bI]) dX5_accept_145
      · refine lv_aload_n hx hb dX5_accept_28 rfl (lv_at hl 0 rfl) ?_
        refine va_get (D := D) (ci := 5) (C := RX5) (T := TX5) (N := 3) hx hb hts in_X5 hown hK hP 0 rfl rfl 1 (by decide) fl_13 (fun _ h9 => h9) rfl dX5_accept_29 ?_
        refine lv_bipush (v := 9) hx hb dX5_accept_32 (by decide) ?_
        refine lv_icmp_gt (tgt := 51) hx hb dX5_accept_34 (by decide) (fun c_34 => ?_) (fun c_34 => ?_)
        · refine lv_iload_n hx hb dX5_accept_51 rfl (lv_at hl 1 rfl) ?_
          refine lv_sipush (v := 1000) hx hb dX5_accept_52 (by decide) ?_
          refine lv_icmp_ne (tgt := 103) hx hb dX5_accept_55 (by decide) (fun c_55 => ?_) (fun c_55 => ?_)
          · refine lv_aload_n hx hb dX5_accept_103 rfl (lv_at hl 0 rfl) ?_
            refine lv_iload_n hx hb dX5_accept_104 rfl (lv_at hl 1 rfl) ?_
            refine ro_V (n := 1) X hK (c_X5_fitsBelowHundred) gX5_accept_X5_fitsBelowHundred rfl (by decide +kernel) ⟨rfl, rfl⟩ ⟨Nat.le_of_ble_eq_true rfl, Nat.le_of_ble_eq_true rfl⟩ (hP.sub [0] rfl) (va_recv hK hP (ci := 5) (q0 := 0) rfl rfl) rfl hl.1 rfl (Nat.le_of_ble_eq_true rfl) dX5_accept_105 ⟨Nat.zero_le _, Nat.zero_le _⟩ ?_
            refine lv_if_ne (tgt := 119) hx hb dX5_accept_108 (by decide) (fun c_108 => ?_) (fun c_108 => ?_)
            · replace c_108 := bI_n0.mp c_108
              refine lv_aload_n hx hb dX5_accept_119 rfl (lv_at hl 0 rfl) ?_
              refine lv_dup hx hb dX5_accept_120 rfl ?_
              refine va_get (D := D) (ci := 5) (C := RX5) (T := TX5) (N := 3) hx hb hts in_X5 hown hK hP 0 rfl rfl 1 (by decide) fl_13 (fun _ h9 => h9) rfl dX5_accept_121 ?_
              refine lv_iload_n hx hb dX5_accept_124 rfl (lv_at hl 1 rfl) ?_
              refine lv_iadd hx hb dX5_accept_125 ?_
              refine va_put (D := D) (ci := 5) (ty := .int) (C := RX5) (T := TX5) (N := 3) hx hb hts in_X5 tyX5 tyX5_ok nmX5 hown hK hP hD hS 0 rfl rfl 1 (by decide) fl_13 (fun _ h9 => h9) rfl (by decide +kernel) rfl rfl (Nat.le_of_ble_eq_true rfl) dX5_accept_126 (fun H locs hP hD hS => ?_)
              have hP : va_P D vwCl [(u, .inr (5, [_, _, _]))] H := hP
              have hD : va_D A [(u, .inr (5, [_, _, _]))] := hD
              refine lv_goto (tgt := 134) hx hb dX5_accept_129 (by decide) ?_
              refine lv_aload_n hx hb dX5_accept_134 rfl (lv_at hl 0 rfl) ?_
              refine lv_dup hx hb dX5_accept_135 rfl ?_
              refine va_get (D := D) (ci := 5) (C := RX5) (T := TX5) (N := 3) hx hb hts in_X5 hown hK hP 0 rfl rfl 2 (by decide) fl_16 (fun _ h9 => h9) rfl dX5_accept_136 ?_
              refine lv_iconst (v := 1) hx hb dX5_accept_139 (by decide) ?_
              refine lv_iadd hx hb dX5_accept_140 ?_
              refine va_put (D := D) (ci := 5) (ty := .int) (C := RX5) (T := TX5) (N := 3) hx hb hts in_X5 tyX5 tyX5_ok nmX5 hown hK hP hD hS 0 rfl rfl 2 (by decide) fl_16 (fun _ h9 => h9) rfl (by decide +kernel) rfl rfl (Nat.le_of_ble_eq_true rfl) dX5_accept_141 (fun H locs hP hD hS => ?_)
              have hP : va_P D vwCl [(u, .inr (5, [_, _, _]))] H := hP
              have hD : va_D A [(u, .inr (5, [_, _, _]))] := hD
              refine lv_iconst (v := 1) hx hb dX5_accept_144 (by decide) ?_
              exact mu_zret X hP hS (by simp_all [sumA, bI]) (by simp_all [sumA, bI]) dX5_accept_145
            · replace c_108 := bI_0.mp c_108
              refine lv_aload_n hx hb dX5_accept_111 rfl (lv_at hl 0 rfl) ?_
              refine lv_iload_n hx hb dX5_accept_112 rfl (lv_at hl 1 rfl) ?_
              refine ro_V (n := 1) X hK (c_X5_fitsBelowTen) gX5_accept_X5_fitsBelowTen rfl (by decide +kernel) ⟨rfl, rfl⟩ ⟨Nat.le_of_ble_eq_true rfl, Nat.le_of_ble_eq_true rfl⟩ (hP.sub [0] rfl) (va_recv hK hP (ci := 5) (q0 := 0) rfl rfl) rfl hl.1 rfl (Nat.le_of_ble_eq_true rfl) dX5_accept_113 ⟨Nat.zero_le _, Nat.zero_le _⟩ ?_
              refine lv_if_eq (tgt := 132) hx hb dX5_accept_116 (by decide) (fun c_116 => ?_) (fun c_116 => ?_)
              · replace c_116 := bI_0.mp c_116
                refine lv_iconst (v := 0) hx hb dX5_accept_132 (by decide) ?_
                exact mu_zret X hP hS (by simp_all [sumA, bI]) (by simp_all [sumA, bI]) dX5_accept_133
              · replace c_116 := bI_n0.mp c_116
                refine lv_aload_n hx hb dX5_accept_119 rfl (lv_at hl 0 rfl) ?_
                refine lv_dup hx hb dX5_accept_120 rfl ?_
                refine va_get (D := D) (ci := 5) (C := RX5) (T := TX5) (N := 3) hx hb hts in_X5 hown hK hP 0 rfl rfl 1 (by decide) fl_13 (fun _ h9 => h9) rfl dX5_accept_121 ?_
                refine lv_iload_n hx hb dX5_accept_124 rfl (lv_at hl 1 rfl) ?_
                refine lv_iadd hx hb dX5_accept_125 ?_
                refine va_put (D := D) (ci := 5) (ty := .int) (C := RX5) (T := TX5) (N := 3) hx hb hts in_X5 tyX5 tyX5_ok nmX5 hown hK hP hD hS 0 rfl rfl 1 (by decide) fl_13 (fun _ h9 => h9) rfl (by decide +kernel) rfl rfl (Nat.le_of_ble_eq_true rfl) dX5_accept_126 (fun H locs hP hD hS => ?_)
                have hP : va_P D vwCl [(u, .inr (5, [_, _, _]))] H := hP
                have hD : va_D A [(u, .inr (5, [_, _, _]))] := hD
                refine lv_goto (tgt := 134) hx hb dX5_accept_129 (by decide) ?_
                refine lv_aload_n hx hb dX5_accept_134 rfl (lv_at hl 0 rfl) ?_
                refine lv_dup hx hb dX5_accept_135 rfl ?_
                refine va_get (D := D) (ci := 5) (C := RX5) (T := TX5) (N := 3) hx hb hts in_X5 hown hK hP 0 rfl rfl 2 (by decide) fl_16 (fun _ h9 => h9) rfl dX5_accept_136 ?_
                refine lv_iconst (v := 1) hx hb dX5_accept_139 (by decide) ?_
                refine lv_iadd hx hb dX5_accept_140 ?_
                refine va_put (D := D) (ci := 5) (ty := .int) (C := RX5) (T := TX5) (N := 3) hx hb hts in_X5 tyX5 tyX5_ok nmX5 hown hK hP hD hS 0 rfl rfl 2 (by decide) fl_16 (fun _ h9 => h9) rfl (by decide +kernel) rfl rfl (Nat.le_of_ble_eq_true rfl) dX5_accept_141 (fun H locs hP hD hS => ?_)
                have hP : va_P D vwCl [(u, .inr (5, [_, _, _]))] H := hP
                have hD : va_D A [(u, .inr (5, [_, _, _]))] := hD
                refine lv_iconst (v := 1) hx hb dX5_accept_144 (by decide) ?_
                exact mu_zret X hP hS (by simp_all [sumA, bI]) (by simp_all [sumA, bI]) dX5_accept_145
          · refine lv_aload_n hx hb dX5_accept_58 rfl (lv_at hl 0 rfl) ?_
            refine va_get (D := D) (ci := 5) (C := RX5) (T := TX5) (N := 3) hx hb hts in_X5 hown hK hP 0 rfl rfl 1 (by decide) fl_13 (fun _ h9 => h9) rfl dX5_accept_59 ?_
            refine lv_iconst (v := 1) hx hb dX5_accept_62 (by decide) ?_
            refine lv_icmp_lt (tgt := 103) hx hb dX5_accept_63 (by decide) (fun c_63 => ?_) (fun c_63 => ?_)
            · refine lv_aload_n hx hb dX5_accept_103 rfl (lv_at hl 0 rfl) ?_
              refine lv_iload_n hx hb dX5_accept_104 rfl (lv_at hl 1 rfl) ?_
              refine ro_V (n := 1) X hK (c_X5_fitsBelowHundred) gX5_accept_X5_fitsBelowHundred rfl (by decide +kernel) ⟨rfl, rfl⟩ ⟨Nat.le_of_ble_eq_true rfl, Nat.le_of_ble_eq_true rfl⟩ (hP.sub [0] rfl) (va_recv hK hP (ci := 5) (q0 := 0) rfl rfl) rfl hl.1 rfl (Nat.le_of_ble_eq_true rfl) dX5_accept_105 ⟨Nat.zero_le _, Nat.zero_le _⟩ ?_
              refine lv_if_ne (tgt := 119) hx hb dX5_accept_108 (by decide) (fun c_108 => ?_) (fun c_108 => ?_)
              · replace c_108 := bI_n0.mp c_108
                refine lv_aload_n hx hb dX5_accept_119 rfl (lv_at hl 0 rfl) ?_
                refine lv_dup hx hb dX5_accept_120 rfl ?_
                refine va_get (D := D) (ci := 5) (C := RX5) (T := TX5) (N := 3) hx hb hts in_X5 hown hK hP 0 rfl rfl 1 (by decide) fl_13 (fun _ h9 => h9) rfl dX5_accept_121 ?_
                refine lv_iload_n hx hb dX5_accept_124 rfl (lv_at hl 1 rfl) ?_
                refine lv_iadd hx hb dX5_accept_125 ?_
                refine va_put (D := D) (ci := 5) (ty := .int) (C := RX5) (T := TX5) (N := 3) hx hb hts in_X5 tyX5 tyX5_ok nmX5 hown hK hP hD hS 0 rfl rfl 1 (by decide) fl_13 (fun _ h9 => h9) rfl (by decide +kernel) rfl rfl (Nat.le_of_ble_eq_true rfl) dX5_accept_126 (fun H locs hP hD hS => ?_)
                have hP : va_P D vwCl [(u, .inr (5, [_, _, _]))] H := hP
                have hD : va_D A [(u, .inr (5, [_, _, _]))] := hD
                refine lv_goto (tgt := 134) hx hb dX5_accept_129 (by decide) ?_
                refine lv_aload_n hx hb dX5_accept_134 rfl (lv_at hl 0 rfl) ?_
                refine lv_dup hx hb dX5_accept_135 rfl ?_
                refine va_get (D := D) (ci := 5) (C := RX5) (T := TX5) (N := 3) hx hb hts in_X5 hown hK hP 0 rfl rfl 2 (by decide) fl_16 (fun _ h9 => h9) rfl dX5_accept_136 ?_
                refine lv_iconst (v := 1) hx hb dX5_accept_139 (by decide) ?_
                refine lv_iadd hx hb dX5_accept_140 ?_
                refine va_put (D := D) (ci := 5) (ty := .int) (C := RX5) (T := TX5) (N := 3) hx hb hts in_X5 tyX5 tyX5_ok nmX5 hown hK hP hD hS 0 rfl rfl 2 (by decide) fl_16 (fun _ h9 => h9) rfl (by decide +kernel) rfl rfl (Nat.le_of_ble_eq_true rfl) dX5_accept_141 (fun H locs hP hD hS => ?_)
                have hP : va_P D vwCl [(u, .inr (5, [_, _, _]))] H := hP
                have hD : va_D A [(u, .inr (5, [_, _, _]))] := hD
                refine lv_iconst (v := 1) hx hb dX5_accept_144 (by decide) ?_
                exact mu_zret X hP hS (by simp_all [sumA, bI]) (by simp_all [sumA, bI]) dX5_accept_145
              · replace c_108 := bI_0.mp c_108
                refine lv_aload_n hx hb dX5_accept_111 rfl (lv_at hl 0 rfl) ?_
                refine lv_iload_n hx hb dX5_accept_112 rfl (lv_at hl 1 rfl) ?_
                refine ro_V (n := 1) X hK (c_X5_fitsBelowTen) gX5_accept_X5_fitsBelowTen rfl (by decide +kernel) ⟨rfl, rfl⟩ ⟨Nat.le_of_ble_eq_true rfl, Nat.le_of_ble_eq_true rfl⟩ (hP.sub [0] rfl) (va_recv hK hP (ci := 5) (q0 := 0) rfl rfl) rfl hl.1 rfl (Nat.le_of_ble_eq_true rfl) dX5_accept_113 ⟨Nat.zero_le _, Nat.zero_le _⟩ ?_
                refine lv_if_eq (tgt := 132) hx hb dX5_accept_116 (by decide) (fun c_116 => ?_) (fun c_116 => ?_)
                · replace c_116 := bI_0.mp c_116
                  refine lv_iconst (v := 0) hx hb dX5_accept_132 (by decide) ?_
                  exact mu_zret X hP hS (by simp_all [sumA, bI]) (by simp_all [sumA, bI]) dX5_accept_133
                · replace c_116 := bI_n0.mp c_116
                  refine lv_aload_n hx hb dX5_accept_119 rfl (lv_at hl 0 rfl) ?_
                  refine lv_dup hx hb dX5_accept_120 rfl ?_
                  refine va_get (D := D) (ci := 5) (C := RX5) (T := TX5) (N := 3) hx hb hts in_X5 hown hK hP 0 rfl rfl 1 (by decide) fl_13 (fun _ h9 => h9) rfl dX5_accept_121 ?_
                  refine lv_iload_n hx hb dX5_accept_124 rfl (lv_at hl 1 rfl) ?_
                  refine lv_iadd hx hb dX5_accept_125 ?_
                  refine va_put (D := D) (ci := 5) (ty := .int) (C := RX5) (T := TX5) (N := 3) hx hb hts in_X5 tyX5 tyX5_ok nmX5 hown hK hP hD hS 0 rfl rfl 1 (by decide) fl_13 (fun _ h9 => h9) rfl (by decide +kernel) rfl rfl (Nat.le_of_ble_eq_true rfl) dX5_accept_126 (fun H locs hP hD hS => ?_)
                  have hP : va_P D vwCl [(u, .inr (5, [_, _, _]))] H := hP
                  have hD : va_D A [(u, .inr (5, [_, _, _]))] := hD
                  refine lv_goto (tgt := 134) hx hb dX5_accept_129 (by decide) ?_
                  refine lv_aload_n hx hb dX5_accept_134 rfl (lv_at hl 0 rfl) ?_
                  refine lv_dup hx hb dX5_accept_135 rfl ?_
                  refine va_get (D := D) (ci := 5) (C := RX5) (T := TX5) (N := 3) hx hb hts in_X5 hown hK hP 0 rfl rfl 2 (by decide) fl_16 (fun _ h9 => h9) rfl dX5_accept_136 ?_
                  refine lv_iconst (v := 1) hx hb dX5_accept_139 (by decide) ?_
                  refine lv_iadd hx hb dX5_accept_140 ?_
                  refine va_put (D := D) (ci := 5) (ty := .int) (C := RX5) (T := TX5) (N := 3) hx hb hts in_X5 tyX5 tyX5_ok nmX5 hown hK hP hD hS 0 rfl rfl 2 (by decide) fl_16 (fun _ h9 => h9) rfl (by decide +kernel) rfl rfl (Nat.le_of_ble_eq_true rfl) dX5_accept_141 (fun H locs hP hD hS => ?_)
                  have hP : va_P D vwCl [(u, .inr (5, [_, _, _]))] H := hP
                  have hD : va_D A [(u, .inr (5, [_, _, _]))] := hD
                  refine lv_iconst (v := 1) hx hb dX5_accept_144 (by decide) ?_
                  exact mu_zret X hP hS (by simp_all [sumA, bI]) (by simp_all [sumA, bI]) dX5_accept_145
            · refine lv_aload_n hx hb dX5_accept_66 rfl (lv_at hl 0 rfl) ?_
              refine va_get (D := D) (ci := 5) (C := RX5) (T := TX5) (N := 3) hx hb hts in_X5 hown hK hP 0 rfl rfl 1 (by decide) fl_13 (fun _ h9 => h9) rfl dX5_accept_67 ?_
              refine lv_sipush (v := 999) hx hb dX5_accept_70 (by decide) ?_
              refine lv_icmp_gt (tgt := 103) hx hb dX5_accept_73 (by decide) (fun c_73 => ?_) (fun c_73 => ?_)
              · refine lv_aload_n hx hb dX5_accept_103 rfl (lv_at hl 0 rfl) ?_
                refine lv_iload_n hx hb dX5_accept_104 rfl (lv_at hl 1 rfl) ?_
                refine ro_V (n := 1) X hK (c_X5_fitsBelowHundred) gX5_accept_X5_fitsBelowHundred rfl (by decide +kernel) ⟨rfl, rfl⟩ ⟨Nat.le_of_ble_eq_true rfl, Nat.le_of_ble_eq_true rfl⟩ (hP.sub [0] rfl) (va_recv hK hP (ci := 5) (q0 := 0) rfl rfl) rfl hl.1 rfl (Nat.le_of_ble_eq_true rfl) dX5_accept_105 ⟨Nat.zero_le _, Nat.zero_le _⟩ ?_
                refine lv_if_ne (tgt := 119) hx hb dX5_accept_108 (by decide) (fun c_108 => ?_) (fun c_108 => ?_)
                · replace c_108 := bI_n0.mp c_108
                  refine lv_aload_n hx hb dX5_accept_119 rfl (lv_at hl 0 rfl) ?_
                  refine lv_dup hx hb dX5_accept_120 rfl ?_
                  refine va_get (D := D) (ci := 5) (C := RX5) (T := TX5) (N := 3) hx hb hts in_X5 hown hK hP 0 rfl rfl 1 (by decide) fl_13 (fun _ h9 => h9) rfl dX5_accept_121 ?_
                  refine lv_iload_n hx hb dX5_accept_124 rfl (lv_at hl 1 rfl) ?_
                  refine lv_iadd hx hb dX5_accept_125 ?_
                  refine va_put (D := D) (ci := 5) (ty := .int) (C := RX5) (T := TX5) (N := 3) hx hb hts in_X5 tyX5 tyX5_ok nmX5 hown hK hP hD hS 0 rfl rfl 1 (by decide) fl_13 (fun _ h9 => h9) rfl (by decide +kernel) rfl rfl (Nat.le_of_ble_eq_true rfl) dX5_accept_126 (fun H locs hP hD hS => ?_)
                  have hP : va_P D vwCl [(u, .inr (5, [_, _, _]))] H := hP
                  have hD : va_D A [(u, .inr (5, [_, _, _]))] := hD
                  refine lv_goto (tgt := 134) hx hb dX5_accept_129 (by decide) ?_
                  refine lv_aload_n hx hb dX5_accept_134 rfl (lv_at hl 0 rfl) ?_
                  refine lv_dup hx hb dX5_accept_135 rfl ?_
                  refine va_get (D := D) (ci := 5) (C := RX5) (T := TX5) (N := 3) hx hb hts in_X5 hown hK hP 0 rfl rfl 2 (by decide) fl_16 (fun _ h9 => h9) rfl dX5_accept_136 ?_
                  refine lv_iconst (v := 1) hx hb dX5_accept_139 (by decide) ?_
                  refine lv_iadd hx hb dX5_accept_140 ?_
                  refine va_put (D := D) (ci := 5) (ty := .int) (C := RX5) (T := TX5) (N := 3) hx hb hts in_X5 tyX5 tyX5_ok nmX5 hown hK hP hD hS 0 rfl rfl 2 (by decide) fl_16 (fun _ h9 => h9) rfl (by decide +kernel) rfl rfl (Nat.le_of_ble_eq_true rfl) dX5_accept_141 (fun H locs hP hD hS => ?_)
                  have hP : va_P D vwCl [(u, .inr (5, [_, _, _]))] H := hP
                  have hD : va_D A [(u, .inr (5, [_, _, _]))] := hD
                  refine lv_iconst (v := 1) hx hb dX5_accept_144 (by decide) ?_
                  exact mu_zret X hP hS (by simp_all [sumA, bI]) (by simp_all [sumA, bI]) dX5_accept_145
                · replace c_108 := bI_0.mp c_108
                  refine lv_aload_n hx hb dX5_accept_111 rfl (lv_at hl 0 rfl) ?_
                  refine lv_iload_n hx hb dX5_accept_112 rfl (lv_at hl 1 rfl) ?_
                  refine ro_V (n := 1) X hK (c_X5_fitsBelowTen) gX5_accept_X5_fitsBelowTen rfl (by decide +kernel) ⟨rfl, rfl⟩ ⟨Nat.le_of_ble_eq_true rfl, Nat.le_of_ble_eq_true rfl⟩ (hP.sub [0] rfl) (va_recv hK hP (ci := 5) (q0 := 0) rfl rfl) rfl hl.1 rfl (Nat.le_of_ble_eq_true rfl) dX5_accept_113 ⟨Nat.zero_le _, Nat.zero_le _⟩ ?_
                  refine lv_if_eq (tgt := 132) hx hb dX5_accept_116 (by decide) (fun c_116 => ?_) (fun c_116 => ?_)
                  · replace c_116 := bI_0.mp c_116
                    refine lv_iconst (v := 0) hx hb dX5_accept_132 (by decide) ?_
                    exact mu_zret X hP hS (by simp_all [sumA, bI]) (by simp_all [sumA, bI]) dX5_accept_133
                  · replace c_116 := bI_n0.mp c_116
                    refine lv_aload_n hx hb dX5_accept_119 rfl (lv_at hl 0 rfl) ?_
                    refine lv_dup hx hb dX5_accept_120 rfl ?_
                    refine va_get (D := D) (ci := 5) (C := RX5) (T := TX5) (N := 3) hx hb hts in_X5 hown hK hP 0 rfl rfl 1 (by decide) fl_13 (fun _ h9 => h9) rfl dX5_accept_121 ?_
                    refine lv_iload_n hx hb dX5_accept_124 rfl (lv_at hl 1 rfl) ?_
                    refine lv_iadd hx hb dX5_accept_125 ?_
                    refine va_put (D := D) (ci := 5) (ty := .int) (C := RX5) (T := TX5) (N := 3) hx hb hts in_X5 tyX5 tyX5_ok nmX5 hown hK hP hD hS 0 rfl rfl 1 (by decide) fl_13 (fun _ h9 => h9) rfl (by decide +kernel) rfl rfl (Nat.le_of_ble_eq_true rfl) dX5_accept_126 (fun H locs hP hD hS => ?_)
                    have hP : va_P D vwCl [(u, .inr (5, [_, _, _]))] H := hP
                    have hD : va_D A [(u, .inr (5, [_, _, _]))] := hD
                    refine lv_goto (tgt := 134) hx hb dX5_accept_129 (by decide) ?_
                    refine lv_aload_n hx hb dX5_accept_134 rfl (lv_at hl 0 rfl) ?_
                    refine lv_dup hx hb dX5_accept_135 rfl ?_
                    refine va_get (D := D) (ci := 5) (C := RX5) (T := TX5) (N := 3) hx hb hts in_X5 hown hK hP 0 rfl rfl 2 (by decide) fl_16 (fun _ h9 => h9) rfl dX5_accept_136 ?_
                    refine lv_iconst (v := 1) hx hb dX5_accept_139 (by decide) ?_
                    refine lv_iadd hx hb dX5_accept_140 ?_
                    refine va_put (D := D) (ci := 5) (ty := .int) (C := RX5) (T := TX5) (N := 3) hx hb hts in_X5 tyX5 tyX5_ok nmX5 hown hK hP hD hS 0 rfl rfl 2 (by decide) fl_16 (fun _ h9 => h9) rfl (by decide +kernel) rfl rfl (Nat.le_of_ble_eq_true rfl) dX5_accept_141 (fun H locs hP hD hS => ?_)
                    have hP : va_P D vwCl [(u, .inr (5, [_, _, _]))] H := hP
                    have hD : va_D A [(u, .inr (5, [_, _, _]))] := hD
                    refine lv_iconst (v := 1) hx hb dX5_accept_144 (by decide) ?_
                    exact mu_zret X hP hS (by simp_all [sumA, bI]) (by simp_all [sumA, bI]) dX5_accept_145
              · refine lv_aload_n hx hb dX5_accept_76 rfl (lv_at hl 0 rfl) ?_
                refine va_get (D := D) (ci := 5) (C := RX5) (T := TX5) (N := 3) hx hb hts in_X5 hown hK hP 0 rfl rfl 0 (by decide) fl_7 (fun _ h9 => h9) rfl dX5_accept_77 ?_
                refine lv_if_ne (tgt := 103) hx hb dX5_accept_80 (by decide) (fun c_80 => ?_) (fun c_80 => ?_)
                · refine lv_aload_n hx hb dX5_accept_103 rfl (lv_at hl 0 rfl) ?_
                  refine lv_iload_n hx hb dX5_accept_104 rfl (lv_at hl 1 rfl) ?_
                  refine ro_V (n := 1) X hK (c_X5_fitsBelowHundred) gX5_accept_X5_fitsBelowHundred rfl (by decide +kernel) ⟨rfl, rfl⟩ ⟨Nat.le_of_ble_eq_true rfl, Nat.le_of_ble_eq_true rfl⟩ (hP.sub [0] rfl) (va_recv hK hP (ci := 5) (q0 := 0) rfl rfl) rfl hl.1 rfl (Nat.le_of_ble_eq_true rfl) dX5_accept_105 ⟨Nat.zero_le _, Nat.zero_le _⟩ ?_
                  refine lv_if_ne (tgt := 119) hx hb dX5_accept_108 (by decide) (fun c_108 => ?_) (fun c_108 => ?_)
                  · replace c_108 := bI_n0.mp c_108
                    refine lv_aload_n hx hb dX5_accept_119 rfl (lv_at hl 0 rfl) ?_
                    refine lv_dup hx hb dX5_accept_120 rfl ?_
                    refine va_get (D := D) (ci := 5) (C := RX5) (T := TX5) (N := 3) hx hb hts in_X5 hown hK hP 0 rfl rfl 1 (by decide) fl_13 (fun _ h9 => h9) rfl dX5_accept_121 ?_
                    refine lv_iload_n hx hb dX5_accept_124 rfl (lv_at hl 1 rfl) ?_
                    refine lv_iadd hx hb dX5_accept_125 ?_
                    refine va_put (D := D) (ci := 5) (ty := .int) (C := RX5) (T := TX5) (N := 3) hx hb hts in_X5 tyX5 tyX5_ok nmX5 hown hK hP hD hS 0 rfl rfl 1 (by decide) fl_13 (fun _ h9 => h9) rfl (by decide +kernel) rfl rfl (Nat.le_of_ble_eq_true rfl) dX5_accept_126 (fun H locs hP hD hS => ?_)
                    have hP : va_P D vwCl [(u, .inr (5, [_, _, _]))] H := hP
                    have hD : va_D A [(u, .inr (5, [_, _, _]))] := hD
                    refine lv_goto (tgt := 134) hx hb dX5_accept_129 (by decide) ?_
                    refine lv_aload_n hx hb dX5_accept_134 rfl (lv_at hl 0 rfl) ?_
                    refine lv_dup hx hb dX5_accept_135 rfl ?_
                    refine va_get (D := D) (ci := 5) (C := RX5) (T := TX5) (N := 3) hx hb hts in_X5 hown hK hP 0 rfl rfl 2 (by decide) fl_16 (fun _ h9 => h9) rfl dX5_accept_136 ?_
                    refine lv_iconst (v := 1) hx hb dX5_accept_139 (by decide) ?_
                    refine lv_iadd hx hb dX5_accept_140 ?_
                    refine va_put (D := D) (ci := 5) (ty := .int) (C := RX5) (T := TX5) (N := 3) hx hb hts in_X5 tyX5 tyX5_ok nmX5 hown hK hP hD hS 0 rfl rfl 2 (by decide) fl_16 (fun _ h9 => h9) rfl (by decide +kernel) rfl rfl (Nat.le_of_ble_eq_true rfl) dX5_accept_141 (fun H locs hP hD hS => ?_)
                    have hP : va_P D vwCl [(u, .inr (5, [_, _, _]))] H := hP
                    have hD : va_D A [(u, .inr (5, [_, _, _]))] := hD
                    refine lv_iconst (v := 1) hx hb dX5_accept_144 (by decide) ?_
                    exact mu_zret X hP hS (by simp_all [sumA, bI]) (by simp_all [sumA, bI]) dX5_accept_145
                  · replace c_108 := bI_0.mp c_108
                    refine lv_aload_n hx hb dX5_accept_111 rfl (lv_at hl 0 rfl) ?_
                    refine lv_iload_n hx hb dX5_accept_112 rfl (lv_at hl 1 rfl) ?_
                    refine ro_V (n := 1) X hK (c_X5_fitsBelowTen) gX5_accept_X5_fitsBelowTen rfl (by decide +kernel) ⟨rfl, rfl⟩ ⟨Nat.le_of_ble_eq_true rfl, Nat.le_of_ble_eq_true rfl⟩ (hP.sub [0] rfl) (va_recv hK hP (ci := 5) (q0 := 0) rfl rfl) rfl hl.1 rfl (Nat.le_of_ble_eq_true rfl) dX5_accept_113 ⟨Nat.zero_le _, Nat.zero_le _⟩ ?_
                    refine lv_if_eq (tgt := 132) hx hb dX5_accept_116 (by decide) (fun c_116 => ?_) (fun c_116 => ?_)
                    · replace c_116 := bI_0.mp c_116
                      refine lv_iconst (v := 0) hx hb dX5_accept_132 (by decide) ?_
                      exact mu_zret X hP hS (by simp_all [sumA, bI]) (by simp_all [sumA, bI]) dX5_accept_133
                    · replace c_116 := bI_n0.mp c_116
                      refine lv_aload_n hx hb dX5_accept_119 rfl (lv_at hl 0 rfl) ?_
                      refine lv_dup hx hb dX5_accept_120 rfl ?_
                      refine va_get (D := D) (ci := 5) (C := RX5) (T := TX5) (N := 3) hx hb hts in_X5 hown hK hP 0 rfl rfl 1 (by decide) fl_13 (fun _ h9 => h9) rfl dX5_accept_121 ?_
                      refine lv_iload_n hx hb dX5_accept_124 rfl (lv_at hl 1 rfl) ?_
                      refine lv_iadd hx hb dX5_accept_125 ?_
                      refine va_put (D := D) (ci := 5) (ty := .int) (C := RX5) (T := TX5) (N := 3) hx hb hts in_X5 tyX5 tyX5_ok nmX5 hown hK hP hD hS 0 rfl rfl 1 (by decide) fl_13 (fun _ h9 => h9) rfl (by decide +kernel) rfl rfl (Nat.le_of_ble_eq_true rfl) dX5_accept_126 (fun H locs hP hD hS => ?_)
                      have hP : va_P D vwCl [(u, .inr (5, [_, _, _]))] H := hP
                      have hD : va_D A [(u, .inr (5, [_, _, _]))] := hD
                      refine lv_goto (tgt := 134) hx hb dX5_accept_129 (by decide) ?_
                      refine lv_aload_n hx hb dX5_accept_134 rfl (lv_at hl 0 rfl) ?_
                      refine lv_dup hx hb dX5_accept_135 rfl ?_
                      refine va_get (D := D) (ci := 5) (C := RX5) (T := TX5) (N := 3) hx hb hts in_X5 hown hK hP 0 rfl rfl 2 (by decide) fl_16 (fun _ h9 => h9) rfl dX5_accept_136 ?_
                      refine lv_iconst (v := 1) hx hb dX5_accept_139 (by decide) ?_
                      refine lv_iadd hx hb dX5_accept_140 ?_
                      refine va_put (D := D) (ci := 5) (ty := .int) (C := RX5) (T := TX5) (N := 3) hx hb hts in_X5 tyX5 tyX5_ok nmX5 hown hK hP hD hS 0 rfl rfl 2 (by decide) fl_16 (fun _ h9 => h9) rfl (by decide +kernel) rfl rfl (Nat.le_of_ble_eq_true rfl) dX5_accept_141 (fun H locs hP hD hS => ?_)
                      have hP : va_P D vwCl [(u, .inr (5, [_, _, _]))] H := hP
                      have hD : va_D A [(u, .inr (5, [_, _, _]))] := hD
                      refine lv_iconst (v := 1) hx hb dX5_accept_144 (by decide) ?_
                      exact mu_zret X hP hS (by simp_all [sumA, bI]) (by simp_all [sumA, bI]) dX5_accept_145
                · refine lv_aload_n hx hb dX5_accept_83 rfl (lv_at hl 0 rfl) ?_
                  refine lv_sipush (v := 1000) hx hb dX5_accept_84 (by decide) ?_
                  refine lv_aload_n hx hb dX5_accept_87 rfl (lv_at hl 0 rfl) ?_
                  refine va_get (D := D) (ci := 5) (C := RX5) (T := TX5) (N := 3) hx hb hts in_X5 hown hK hP 0 rfl rfl 1 (by decide) fl_13 (fun _ h9 => h9) rfl dX5_accept_88 ?_
                  refine lv_imul hx hb dX5_accept_91 ?_
                  refine va_put (D := D) (ci := 5) (ty := .int) (C := RX5) (T := TX5) (N := 3) hx hb hts in_X5 tyX5 tyX5_ok nmX5 hown hK hP hD hS 0 rfl rfl 0 (by decide) fl_7 (fun _ h9 => h9) rfl (by decide +kernel) rfl rfl (Nat.le_of_ble_eq_true rfl) dX5_accept_92 (fun H locs hP hD hS => ?_)
                  have hP : va_P D vwCl [(u, .inr (5, [_, _, _]))] H := hP
                  have hD : va_D A [(u, .inr (5, [_, _, _]))] := hD
                  refine lv_aload_n hx hb dX5_accept_95 rfl (lv_at hl 0 rfl) ?_
                  refine lv_iconst (v := 0) hx hb dX5_accept_96 (by decide) ?_
                  refine va_put (D := D) (ci := 5) (ty := .int) (C := RX5) (T := TX5) (N := 3) hx hb hts in_X5 tyX5 tyX5_ok nmX5 hown hK hP hD hS 0 rfl rfl 1 (by decide) fl_13 (fun _ h9 => h9) rfl (by decide +kernel) rfl rfl (Nat.le_of_ble_eq_true rfl) dX5_accept_97 (fun H locs hP hD hS => ?_)
                  have hP : va_P D vwCl [(u, .inr (5, [_, _, _]))] H := hP
                  have hD : va_D A [(u, .inr (5, [_, _, _]))] := hD
                  refine lv_goto (tgt := 134) hx hb dX5_accept_100 (by decide) ?_
                  refine lv_aload_n hx hb dX5_accept_134 rfl (lv_at hl 0 rfl) ?_
                  refine lv_dup hx hb dX5_accept_135 rfl ?_
                  refine va_get (D := D) (ci := 5) (C := RX5) (T := TX5) (N := 3) hx hb hts in_X5 hown hK hP 0 rfl rfl 2 (by decide) fl_16 (fun _ h9 => h9) rfl dX5_accept_136 ?_
                  refine lv_iconst (v := 1) hx hb dX5_accept_139 (by decide) ?_
                  refine lv_iadd hx hb dX5_accept_140 ?_
                  refine va_put (D := D) (ci := 5) (ty := .int) (C := RX5) (T := TX5) (N := 3) hx hb hts in_X5 tyX5 tyX5_ok nmX5 hown hK hP hD hS 0 rfl rfl 2 (by decide) fl_16 (fun _ h9 => h9) rfl (by decide +kernel) rfl rfl (Nat.le_of_ble_eq_true rfl) dX5_accept_141 (fun H locs hP hD hS => ?_)
                  have hP : va_P D vwCl [(u, .inr (5, [_, _, _]))] H := hP
                  have hD : va_D A [(u, .inr (5, [_, _, _]))] := hD
                  refine lv_iconst (v := 1) hx hb dX5_accept_144 (by decide) ?_
                  exact mu_zret X hP hS (by simp_all [sumA, bI]) (by simp_all [sumA, bI]) dX5_accept_145
        · refine lv_aload_n hx hb dX5_accept_37 rfl (lv_at hl 0 rfl) ?_
          refine lv_bipush (v := 100) hx hb dX5_accept_38 (by decide) ?_
          refine lv_aload_n hx hb dX5_accept_40 rfl (lv_at hl 0 rfl) ?_
          refine va_get (D := D) (ci := 5) (C := RX5) (T := TX5) (N := 3) hx hb hts in_X5 hown hK hP 0 rfl rfl 1 (by decide) fl_13 (fun _ h9 => h9) rfl dX5_accept_41 ?_
          refine lv_imul hx hb dX5_accept_44 ?_
          refine va_put (D := D) (ci := 5) (ty := .int) (C := RX5) (T := TX5) (N := 3) hx hb hts in_X5 tyX5 tyX5_ok nmX5 hown hK hP hD hS 0 rfl rfl 1 (by decide) fl_13 (fun _ h9 => h9) rfl (by decide +kernel) rfl rfl (Nat.le_of_ble_eq_true rfl) dX5_accept_45 (fun H locs hP hD hS => ?_)
          have hP : va_P D vwCl [(u, .inr (5, [_, _, _]))] H := hP
          have hD : va_D A [(u, .inr (5, [_, _, _]))] := hD
          refine lv_goto (tgt := 134) hx hb dX5_accept_48 (by decide) ?_
          refine lv_aload_n hx hb dX5_accept_134 rfl (lv_at hl 0 rfl) ?_
          refine lv_dup hx hb dX5_accept_135 rfl ?_
          refine va_get (D := D) (ci := 5) (C := RX5) (T := TX5) (N := 3) hx hb hts in_X5 hown hK hP 0 rfl rfl 2 (by decide) fl_16 (fun _ h9 => h9) rfl dX5_accept_136 ?_
          refine lv_iconst (v := 1) hx hb dX5_accept_139 (by decide) ?_
          refine lv_iadd hx hb dX5_accept_140 ?_
          refine va_put (D := D) (ci := 5) (ty := .int) (C := RX5) (T := TX5) (N := 3) hx hb hts in_X5 tyX5 tyX5_ok nmX5 hown hK hP hD hS 0 rfl rfl 2 (by decide) fl_16 (fun _ h9 => h9) rfl (by decide +kernel) rfl rfl (Nat.le_of_ble_eq_true rfl) dX5_accept_141 (fun H locs hP hD hS => ?_)
          have hP : va_P D vwCl [(u, .inr (5, [_, _, _]))] H := hP
          have hD : va_D A [(u, .inr (5, [_, _, _]))] := hD
          refine lv_iconst (v := 1) hx hb dX5_accept_144 (by decide) ?_
          exact mu_zret X hP hS (by simp_all [sumA, bI]) (by simp_all [sumA, bI]) dX5_accept_145
  · refine lv_aload_n hx hb dX5_accept_7 rfl (lv_at hl 0 rfl) ?_
    refine lv_iload_n hx hb dX5_accept_8 rfl (lv_at hl 1 rfl) ?_
    refine mu_V (n := 1) X hK (c_X5_begin) gX5_accept_X5_begin rfl (by decide +kernel) ⟨rfl, rfl⟩ ⟨Nat.le_of_ble_eq_true rfl, Nat.le_of_ble_eq_true rfl⟩ [0] rfl rfl rfl rfl hA hP hD hS (va_recv hK hP (ci := 5) (q0 := 0) rfl rfl) rfl hl.1 rfl (Nat.le_of_ble_eq_true rfl) dX5_accept_9 ⟨Nat.zero_le _, Nat.zero_le _⟩ (fun H locs hP hD hS => ?_)
    have hP : va_P D vwCl [(u, .inr (5, [_, _, _]))] H := hP
    have hD : va_D A [(u, .inr (5, [_, _, _]))] := hD
    refine lv_iconst (v := 1) hx hb dX5_accept_12 (by decide) ?_
    exact mu_zret X hP hS (by simp_all [sumA, bI]) (by simp_all [sumA, bI]) dX5_accept_13

set_option maxHeartbeats 1000000 in
set_option maxRecDepth 100000 in
theorem c_X0_clear {l : Launch} {D : va_G} {cI cJ cW : ClassId} {sz : Nat} {w : Nat} {sh cl : Int32}  : MU l yX0_clear wsX0_clear { frames := 0, cells := 0, slots := 0, locals := 0 } D (ty3 cI cJ cW) [.ref w] [(w, .inr (0, [.int sh, .int cl]))] sz none [(w, .inr (0, [.int 0, .int 0]))] := by
  refine mu_of (cc := cX0_clear) (maxL := 1) (ret := none) (by decide) rfl (Nat.le_of_ble_eq_true rfl) ?_
  intro pr en ss mi below meth cd X hK A hA hP hD hS ls hl
  obtain ⟨hx, hb, hml, hown, hts, hr, hlocks⟩ := id X
  have fl_13 := hts (.fieldLink RX0 13 "WordTables$Common" "length" "I") (by decide +kernel)
  have fl_7 := hts (.fieldLink RX0 7 "WordTables$Common" "shared" "I") (by decide +kernel)
  have in_X0 : ∀ w ∈ wsX00, w ∈ wsX0_clear := by decide +kernel
  have hl : lv_has ls 1 [(0, .ref w)] := hl
  refine lv_aload_n hx hb dX0_clear_0 rfl (lv_at hl 0 rfl) ?_
  refine lv_iconst (v := 0) hx hb dX0_clear_1 (by decide) ?_
  refine va_put (D := D) (ci := 0) (ty := .int) (C := RX0) (T := TX0) (N := 2) hx hb hts in_X0 tyX0 tyX0_ok nmX0 hown hK hP hD hS 0 rfl rfl 0 (by decide) fl_7 (fun _ h9 => h9) rfl (by decide +kernel) rfl rfl (Nat.le_of_ble_eq_true rfl) dX0_clear_2 (fun H locs hP hD hS => ?_)
  have hP : va_P D vwCl [(w, .inr (0, [_, _]))] H := hP
  have hD : va_D A [(w, .inr (0, [_, _]))] := hD
  refine lv_aload_n hx hb dX0_clear_5 rfl (lv_at hl 0 rfl) ?_
  refine lv_iconst (v := 0) hx hb dX0_clear_6 (by decide) ?_
  refine va_put (D := D) (ci := 0) (ty := .int) (C := RX0) (T := TX0) (N := 2) hx hb hts in_X0 tyX0 tyX0_ok nmX0 hown hK hP hD hS 0 rfl rfl 1 (by decide) fl_13 (fun _ h9 => h9) rfl (by decide +kernel) rfl rfl (Nat.le_of_ble_eq_true rfl) dX0_clear_7 (fun H locs hP hD hS => ?_)
  have hP : va_P D vwCl [(w, .inr (0, [_, _]))] H := hP
  have hD : va_D A [(w, .inr (0, [_, _]))] := hD
  exact mu_vret X hP hS (rfl) dX0_clear_10

set_option maxHeartbeats 1000000 in
set_option maxRecDepth 100000 in
theorem c_X0_accept {l : Launch} {D : va_G} {cI cJ cW : ClassId} {sz : Nat} {w : Nat} {sh cl b : Int32}  : MU l yX0_accept wsX0_accept { frames := 0, cells := 0, slots := 0, locals := 0 } D (ty3 cI cJ cW) [.ref w, .int b] [(w, .inr (0, [.int sh, .int cl]))] sz (some (.int (bI (coA sh cl b).1))) [(w, .inr (0, [.int ((coA sh cl b).2.1), .int ((coA sh cl b).2.2)]))] := by
  refine mu_of (cc := cX0_accept) (maxL := 3) (ret := (some .boolean)) (by decide) rfl (Nat.le_of_ble_eq_true rfl) ?_
  intro pr en ss mi below meth cd X hK A hA hP hD hS ls hl
  obtain ⟨hx, hb, hml, hown, hts, hr, hlocks⟩ := id X
  have fl_13 := hts (.fieldLink RX0 13 "WordTables$Common" "length" "I") (by decide +kernel)
  have fl_7 := hts (.fieldLink RX0 7 "WordTables$Common" "shared" "I") (by decide +kernel)
  have in_X0 : ∀ w ∈ wsX00, w ∈ wsX0_accept := by decide +kernel
  have hl : lv_has ls 3 [(0, .ref w), (1, .int b)] := hl
  refine lv_aload_n hx hb dX0_accept_0 rfl (lv_at hl 0 rfl) ?_
  refine va_get (D := D) (ci := 0) (C := RX0) (T := TX0) (N := 2) hx hb hts in_X0 hown hK hP 0 rfl rfl 1 (by decide) fl_13 (fun _ h9 => h9) rfl dX0_accept_1 ?_
  refine lv_if_ne (tgt := 11) hx hb dX0_accept_4 (by decide) (fun c_4 => ?_) (fun c_4 => ?_)
  · refine lv_aload_n hx hb dX0_accept_11 rfl (lv_at hl 0 rfl) ?_
    refine va_get (D := D) (ci := 0) (C := RX0) (T := TX0) (N := 2) hx hb hts in_X0 hown hK hP 0 rfl rfl 0 (by decide) fl_7 (fun _ h9 => h9) rfl dX0_accept_12 ?_
    refine lv_iload_n hx hb dX0_accept_15 rfl (lv_at hl 1 rfl) ?_
    refine lv_iand hx hb dX0_accept_16 ?_
    refine lv_istore_n (lv' := [(2, _), (0, _), (1, _)]) hx hb dX0_accept_17 rfl hl (by decide) rfl (fun ls hl => ?_)
    refine lv_iload_n hx hb dX0_accept_18 rfl (lv_at hl 0 rfl) ?_
    refine lv_if_ne (tgt := 24) hx hb dX0_accept_19 (by decide) (fun c_19 => ?_) (fun c_19 => ?_)
    · refine lv_aload_n hx hb dX0_accept_24 rfl (lv_at hl 1 rfl) ?_
      refine lv_iload_n hx hb dX0_accept_25 rfl (lv_at hl 0 rfl) ?_
      refine va_put (D := D) (ci := 0) (ty := .int) (C := RX0) (T := TX0) (N := 2) hx hb hts in_X0 tyX0 tyX0_ok nmX0 hown hK hP hD hS 0 rfl rfl 0 (by decide) fl_7 (fun _ h9 => h9) rfl (by decide +kernel) rfl rfl (Nat.le_of_ble_eq_true rfl) dX0_accept_26 (fun H locs hP hD hS => ?_)
      have hP : va_P D vwCl [(w, .inr (0, [_, _]))] H := hP
      have hD : va_D A [(w, .inr (0, [_, _]))] := hD
      refine lv_aload_n hx hb dX0_accept_29 rfl (lv_at hl 1 rfl) ?_
      refine lv_dup hx hb dX0_accept_30 rfl ?_
      refine va_get (D := D) (ci := 0) (C := RX0) (T := TX0) (N := 2) hx hb hts in_X0 hown hK hP 0 rfl rfl 1 (by decide) fl_13 (fun _ h9 => h9) rfl dX0_accept_31 ?_
      refine lv_iconst (v := 1) hx hb dX0_accept_34 (by decide) ?_
      refine lv_iadd hx hb dX0_accept_35 ?_
      refine va_put (D := D) (ci := 0) (ty := .int) (C := RX0) (T := TX0) (N := 2) hx hb hts in_X0 tyX0 tyX0_ok nmX0 hown hK hP hD hS 0 rfl rfl 1 (by decide) fl_13 (fun _ h9 => h9) rfl (by decide +kernel) rfl rfl (Nat.le_of_ble_eq_true rfl) dX0_accept_36 (fun H locs hP hD hS => ?_)
      have hP : va_P D vwCl [(w, .inr (0, [_, _]))] H := hP
      have hD : va_D A [(w, .inr (0, [_, _]))] := hD
      refine lv_iconst (v := 1) hx hb dX0_accept_39 (by decide) ?_
      exact mu_zret X hP hS (by simp [coA, bI, c_4, c_19]) (by simp [coA, bI, c_4, c_19]) dX0_accept_40
    · refine lv_iconst (v := 0) hx hb dX0_accept_22 (by decide) ?_
      exact mu_zret X hP hS (by simp [coA, bI, c_4, c_19]) (by simp [coA, bI, c_4, c_19]) dX0_accept_23
  · refine lv_iload_n hx hb dX0_accept_7 rfl (lv_at hl 1 rfl) ?_
    refine lv_goto (tgt := 17) hx hb dX0_accept_8 (by decide) ?_
    refine lv_istore_n (lv' := [(2, _), (0, _), (1, _)]) hx hb dX0_accept_17 rfl hl (by decide) rfl (fun ls hl => ?_)
    refine lv_iload_n hx hb dX0_accept_18 rfl (lv_at hl 0 rfl) ?_
    refine lv_if_ne (tgt := 24) hx hb dX0_accept_19 (by decide) (fun c_19 => ?_) (fun c_19 => ?_)
    · refine lv_aload_n hx hb dX0_accept_24 rfl (lv_at hl 1 rfl) ?_
      refine lv_iload_n hx hb dX0_accept_25 rfl (lv_at hl 0 rfl) ?_
      refine va_put (D := D) (ci := 0) (ty := .int) (C := RX0) (T := TX0) (N := 2) hx hb hts in_X0 tyX0 tyX0_ok nmX0 hown hK hP hD hS 0 rfl rfl 0 (by decide) fl_7 (fun _ h9 => h9) rfl (by decide +kernel) rfl rfl (Nat.le_of_ble_eq_true rfl) dX0_accept_26 (fun H locs hP hD hS => ?_)
      have hP : va_P D vwCl [(w, .inr (0, [_, _]))] H := hP
      have hD : va_D A [(w, .inr (0, [_, _]))] := hD
      refine lv_aload_n hx hb dX0_accept_29 rfl (lv_at hl 1 rfl) ?_
      refine lv_dup hx hb dX0_accept_30 rfl ?_
      refine va_get (D := D) (ci := 0) (C := RX0) (T := TX0) (N := 2) hx hb hts in_X0 hown hK hP 0 rfl rfl 1 (by decide) fl_13 (fun _ h9 => h9) rfl dX0_accept_31 ?_
      refine lv_iconst (v := 1) hx hb dX0_accept_34 (by decide) ?_
      refine lv_iadd hx hb dX0_accept_35 ?_
      refine va_put (D := D) (ci := 0) (ty := .int) (C := RX0) (T := TX0) (N := 2) hx hb hts in_X0 tyX0 tyX0_ok nmX0 hown hK hP hD hS 0 rfl rfl 1 (by decide) fl_13 (fun _ h9 => h9) rfl (by decide +kernel) rfl rfl (Nat.le_of_ble_eq_true rfl) dX0_accept_36 (fun H locs hP hD hS => ?_)
      have hP : va_P D vwCl [(w, .inr (0, [_, _]))] H := hP
      have hD : va_D A [(w, .inr (0, [_, _]))] := hD
      refine lv_iconst (v := 1) hx hb dX0_accept_39 (by decide) ?_
      exact mu_zret X hP hS (by simp [coA, bI, c_4, c_19]) (by simp [coA, bI, c_4, c_19]) dX0_accept_40
    · refine lv_iconst (v := 0) hx hb dX0_accept_22 (by decide) ?_
      exact mu_zret X hP hS (by simp [coA, bI, c_4, c_19]) (by simp [coA, bI, c_4, c_19]) dX0_accept_23
end
section
/-! Vocabulary, over the cells dy of the words and the joins -/
def wCells (cI : ClassId) (a : Nat → Nat → Nat) (z : Nat → Nat → Int32) (n : Nat → Nat) (t : Nat → Nat → Int32) (j : Nat) : va_W := [(a j 0, .inr (9, [.ref (a j 1), .int (z j 1), .int (z j 2), .int (z j 3), .int (z j 4), .int (z j 5)])), (a j 1, .inr (4, [.ref (a j 2), .int (nI (n j))])), (a j 2, .inl (cI, n j, .inl (t j)))]
def jCells (cI : ClassId) (a : Nat → Nat → Nat) (z : Nat → Nat → Int32) (n : Nat → Nat) (t : Nat → Nat → Int32) (j : Nat) : va_W := [(a j 0, .inr (2, [.ref (a j 1), .int (z j 1), .int (z j 2)])), (a j 1, .inr (4, [.ref (a j 2), .int (nI (n j))])), (a j 2, .inl (cI, n j, .inl (t j)))]
def Dw (cI : ClassId) (a : Nat → Nat → Nat) (z : Nat → Nat → Int32) (n : Nat → Nat) (t : Nat → Nat → Int32) (nw : Nat) (dy : va_W) : Prop := ∀ j, j < nw → n j ≤ 20 ∧ ∀ q ∈ wCells cI a z n t j, q ∈ dy
def Dj (cI : ClassId) (a : Nat → Nat → Nat) (z : Nat → Nat → Int32) (n : Nat → Nat) (t : Nat → Nat → Int32) (nj : Nat) (dy : va_W) : Prop := ∀ j, j < nj → n j ≤ 20 ∧ ∀ q ∈ jCells cI a z n t j, q ∈ dy
theorem memP {D : va_G} {cl : List vw_C} {ws w : va_W} {H : Heap} (h : va_P D cl ws H) (hm : ∀ q ∈ w, q ∈ ws) : va_P D cl w H := by
  intro k q hk
  obtain ⟨i, hi⟩ := List.getElem?_of_mem (hm q (List.mem_of_getElem? hk))
  exact h i q hi
def knF (wf : Nat → Option Nat) (nw : Nat) (x : Int32) : Option Nat := if x < 0 then none else if nI nw ≤ x then none else if nI 40 ≤ x then none else wf x.toNatClampNeg
theorem kn_nI {wf : Nat → Option Nat} {nw j : Nat} {wa : Nat → Nat → Nat} (hj : j < nw) (hnw : nw ≤ 40) (hwf : ∀ i, i < nw → wf i = some (wa i 0)) : knF wf nw (nI j) = some (wa j 0) := by
  have h1 : ¬ nI j < 0 := nI_pos (by omega)
  have h2 : ¬ nI nw ≤ nI j := nI_ge hj (by omega)
  have h3 : ¬ nI 40 ≤ nI j := nI_ge (by omega) (by decide)
  simp only [knF, h1, h2, h3, if_false, nI_clamp (show j < 2 ^ 31 by omega)]
  exact hwf j hj
theorem kn_out {wf : Nat → Option Nat} {nw : Nat} {x : Int32} (h : x < 0 ∨ nI nw ≤ x) : knF wf nw x = none := by
  rcases h with h | h <;> simp [knF, h]
theorem kn_some {wf : Nat → Option Nat} {nw q : Nat} {x : Int32} {wa : Nat → Nat → Nat} (h : knF wf nw x = some q) (hnw : nw ≤ 40) (hwf : ∀ i, i < nw → wf i = some (wa i 0)) : ∃ j, j < nw ∧ x = nI j ∧ q = wa j 0 := by
  rcases pk_ix x (n := nw) (by omega) with h1 | h1 | ⟨j, hj, rfl⟩
  · rw [kn_out (Or.inl h1)] at h; cases h
  · rw [kn_out (Or.inr h1)] at h; cases h
  · rw [kn_nI hj hnw hwf] at h
    exact ⟨j, hj, rfl, (Option.some.inj h).symm⟩
theorem kn_none {wf : Nat → Option Nat} {nw : Nat} {x : Int32} {wa : Nat → Nat → Nat} (h : knF wf nw x = none) (hnw : nw ≤ 40) (hwf : ∀ i, i < nw → wf i = some (wa i 0)) : x < 0 ∨ nI nw ≤ x := by
  rcases pk_ix x (n := nw) (by omega) with h1 | h1 | ⟨j, hj, rfl⟩
  · exact Or.inl h1
  · exact Or.inr h1
  · rw [kn_nI hj hnw hwf] at h; cases h
/-- the first of n places from k on -/
def fiO (p : Nat → Bool) (k : Nat) : Nat → Option Nat
  | 0 => none
  | n + 1 => if p k = true then some k else fiO p (k + 1) n
def oI : Option Nat → Int32
  | none => -1
  | some j => nI j
theorem fiO_hit {p : Nat → Bool} {k n : Nat} (hk : k < n) (h : p k = true) : fiO p k (n - k) = some k := by
  rw [show n - k = (n - (k + 1)) + 1 by omega, fiO, if_pos h]
theorem fiO_miss {p : Nat → Bool} {k n : Nat} (hk : k < n) (h : p k = false) : fiO p k (n - k) = fiO p (k + 1) (n - (k + 1)) := by
  rw [show n - k = (n - (k + 1)) + 1 by omega, fiO, if_neg (by rw [h]; exact Bool.false_ne_true)]
theorem fiO_end {p : Nat → Bool} {n : Nat} : fiO p n (n - n) = none := by
  rw [Nat.sub_self, fiO]
theorem fiO_some {p : Nat → Bool} : ∀ (n k j : Nat), fiO p k n = some j → k ≤ j ∧ j < k + n ∧ p j = true
  | 0, k, j, h => by cases h
  | n + 1, k, j, h => by
    rw [fiO] at h
    by_cases hp : p k = true
    · rw [if_pos hp] at h; cases h; exact ⟨Nat.le_refl _, by omega, hp⟩
    · rw [if_neg hp] at h
      have := fiO_some n (k + 1) j h
      exact ⟨by omega, by omega, this.2.2⟩
def fwC (ct : Nat) (fo : Nat → Int32) (wz : Nat → Nat → Int32) (wn : Nat → Nat) (wt : Nat → Nat → Int32) (nw : Nat) (L : Nat → Int32) (lg : Int32) (fr ln : Nat) : Option Nat := fiO (fun j => decide (wz j 1 = lg) && likeB ct (foC fo) (wt j) (wn j) (fun i => L (fr + i)) ln) 0 nw
def fjC (ct : Nat) (fo : Nat → Int32) (jn : Nat → Nat) (jt : Nat → Nat → Int32) (nj : Nat) (L : Nat → Int32) (fr ln : Nat) : Option Nat := fiO (fun j => likeB ct (foC fo) (jt j) (jn j) (fun i => L (fr + i)) ln) 0 nj
theorem oI_m1 {j : Nat} (h : j < 2 ^ 31) : ¬ oI (some j) = -1 := by
  intro q
  have h1 := nI_toInt h
  have h2 : (nI j).toInt = (-1 : Int32).toInt := by rw [show nI j = -1 from q]
  rw [h1] at h2
  have : (-1 : Int32).toInt = -1 := rfl
  omega
theorem fiO_congr {p q : Nat → Bool} : ∀ (n k : Nat), (∀ j, k ≤ j → j < k + n → p j = q j) → fiO p k n = fiO q k n
  | 0, k, h => rfl
  | n + 1, k, h => by
    rw [fiO, fiO, h k (Nat.le_refl _) (by omega), fiO_congr n (k + 1) (fun j h1 h2 => h j (by omega) (by omega))]

set_option maxHeartbeats 1000000 in
set_option maxRecDepth 100000 in
theorem c_X8_known {l : Launch} {D : va_G} {cI cJ cW : ClassId} {t v vw vj nw nj : Nat} {wf : Nat → Option Nat} {x : Int32}  : RO l yX8_known wsX8_known { frames := 0, cells := 0, slots := 0, locals := 0 } D (ty3 cI cJ cW) [.ref v, .int x] [(v, .inr (8, [.ref t, .ref vw, .ref vj, .int (nI nw), .int (nI nj)])), (vw, .inl (cW, 40, .inr (.inr (.inr (.inr wf)))))] (va_rf (knF wf nw x)) := by
  refine ro_of (cc := cX8_known) (maxL := 2) (ret := (some (.object "WordTables$Word"))) (by decide) rfl (Nat.le_of_ble_eq_true rfl) ?_
  intro pr en ss mi below meth cd X hP hK ls hl
  obtain ⟨hx, hb, hml, hown, hts, hr, hlocks⟩ := id X
  have fl_17 := hts (.fieldLink RX8 17 "WordTables$Vocabulary" "words" "[LWordTables$Word;") (by decide +kernel)
  have fl_27 := hts (.fieldLink RX8 27 "WordTables$Vocabulary" "wordCount" "I") (by decide +kernel)
  have in_X8 : ∀ w ∈ wsX80, w ∈ wsX8_known := by decide +kernel
  have hl : lv_has ls 2 [(0, .ref v), (1, .int x)] := hl
  refine lv_iload_n hx hb dX8_known_0 rfl (lv_at hl 1 rfl) ?_
  refine lv_if_lt (tgt := 30) hx hb dX8_known_1 (by decide) (fun c_1 => ?_) (fun c_1 => ?_)
  · refine lv_null hx hb dX8_known_30 ?_
    exact ro_aret X (by first | (simp [knF, c_1]; done) | (simp [knF, c_1]; rfl)) dX8_known_31
  · refine lv_iload_n hx hb dX8_known_4 rfl (lv_at hl 1 rfl) ?_
    refine lv_aload_n hx hb dX8_known_5 rfl (lv_at hl 0 rfl) ?_
    refine va_get (D := D) (ci := 8) (C := RX8) (T := TX8) (N := 5) hx hb hts in_X8 hown hK hP 0 rfl rfl 3 (by decide) fl_27 (fun _ h9 => h9) rfl dX8_known_6 ?_
    refine lv_icmp_ge (tgt := 30) hx hb dX8_known_9 (by decide) (fun c_9 => ?_) (fun c_9 => ?_)
    · refine lv_null hx hb dX8_known_30 ?_
      exact ro_aret X (by first | (simp [knF, c_1, c_9]; done) | (simp [knF, c_1, c_9]; rfl)) dX8_known_31
    · refine lv_iload_n hx hb dX8_known_12 rfl (lv_at hl 1 rfl) ?_
      refine lv_aload_n hx hb dX8_known_13 rfl (lv_at hl 0 rfl) ?_
      refine va_get (D := D) (ci := 8) (C := RX8) (T := TX8) (N := 5) hx hb hts in_X8 hown hK hP 0 rfl rfl 1 (by decide) fl_17 (fun _ h9 => h9) rfl dX8_known_14 ?_
      refine va_alen (v := nI 40) hx hb hK hP 1 2 rfl rfl rfl dX8_known_17 ?_
      refine lv_icmp_ge (tgt := 30) hx hb dX8_known_18 (by decide) (fun c_18 => ?_) (fun c_18 => ?_)
      · refine lv_null hx hb dX8_known_30 ?_
        exact ro_aret X (by first | (simp [knF, c_1, c_9, c_18]; done) | (simp [knF, c_1, c_9, c_18]; rfl)) dX8_known_31
      · refine lv_aload_n hx hb dX8_known_21 rfl (lv_at hl 0 rfl) ?_
        refine va_get (D := D) (ci := 8) (C := RX8) (T := TX8) (N := 5) hx hb hts in_X8 hown hK hP 0 rfl rfl 1 (by decide) fl_17 (fun _ h9 => h9) rfl dX8_known_22 ?_
        refine lv_iload_n hx hb dX8_known_25 rfl (lv_at hl 1 rfl) ?_
        refine va_aldq hx hb hK hP 1 2 rfl rfl (in_lt (by assumption) (by assumption) (by decide)) dX8_known_26 ?_
        refine lv_goto (tgt := 31) hx hb dX8_known_27 (by decide) ?_
        exact ro_aret X (by first | (simp [knF, c_1, c_9, c_18]; done) | (simp [knF, c_1, c_9, c_18]; rfl)) dX8_known_31

set_option maxHeartbeats 1000000 in
set_option maxRecDepth 100000 in
theorem c_X8_likeIn {l : Launch} {D : va_G} {cI cJ cW : ClassId} {t v vw vj nw nj : Nat} {wf jf : Nat → Option Nat} {fa ct : Nat} {fo : Nat → Int32} {th tb tn tN : Nat} {tf : Nat → Int32} {fr ln : Nat} {dy : va_W} {lg : Int32} {wa : Nat → Nat → Nat} {wz : Nat → Nat → Int32} {wn : Nat → Nat} {wt : Nat → Nat → Int32} (hct : ct < 2 ^ 31) (htN : tN < 2 ^ 31) (htn : tn ≤ tN) (hfl : fr + ln ≤ tn) (hnw : nw ≤ 40) (hwf : ∀ i, i < nw → wf i = some (wa i 0)) (hdw : Dw cI wa wz wn wt nw dy) : RO l yX8_likeIn wsX8_likeIn { frames := 2, cells := 0, slots := 0, locals := 48 } D (ty3 cI cJ cW) [.ref v, .int lg, .ref th, .int (nI fr), .int (nI ln)] ((v, .inr (8, [.ref t, .ref vw, .ref vj, .int (nI nw), .int (nI nj)])) :: (vw, .inl (cW, 40, .inr (.inr (.inr (.inr wf))))) :: (t, .inr (3, [.int (nI ct), .ref fa])) :: (fa, .inl (cI, 32, .inl fo)) :: (th, .inr (4, [.ref tb, .int (nI tn)])) :: (tb, .inl (cI, tN, .inl tf)) :: dy) (.int (oI (fwC ct fo wz wn wt nw tf lg fr ln))) := by
  refine ro_of (cc := cX8_likeIn) (maxL := 7) (ret := (some .int)) (by decide) rfl (Nat.le_of_ble_eq_true rfl) ?_
  intro pr en ss mi below meth cd X hP hK ls hl
  obtain ⟨hx, hb, hml, hown, hts, hr, hlocks⟩ := id X
  have fl_27 := hts (.fieldLink RX8 27 "WordTables$Vocabulary" "wordCount" "I") (by decide +kernel)
  have fl_35 := hts (.fieldLink RX8 35 "WordTables$Word" "language" "I") (by decide +kernel)
  have fl_38 := hts (.fieldLink RX8 38 "WordTables$Word" "spelling" "LWordTables$Row;") (by decide +kernel)
  have fl_9 := hts (.fieldLink RX8 9 "WordTables$Vocabulary" "letters" "LWordTables$Letters;") (by decide +kernel)
  have in_X8 : ∀ w ∈ wsX80, w ∈ wsX8_likeIn := by decide +kernel
  have in_X9 : ∀ w ∈ wsX90, w ∈ wsX8_likeIn := by decide +kernel
  have hl : lv_has ls 7 [(0, .ref v), (1, .int lg), (2, .ref th), (3, .int (nI fr)), (4, .int (nI ln))] := hl
  refine lv_iconst (v := 0) hx hb dX8_likeIn_0 (by decide) ?_
  refine lv_istore (lv' := [(5, _), (0, _), (1, _), (2, _), (3, _), (4, _)]) hx hb dX8_likeIn_1 hl (by decide) rfl (fun ls hl => ?_)
  have loop_3 : ∀ (fuel : Nat) (k : Nat), nw - k < fuel → k ≤ nw → (fiO (fun j => decide (wz j 1 = lg) && likeB ct (foC fo) (wt j) (wn j) (fun i => tf (fr + i)) ln) k (nw - k) = fiO (fun j => decide (wz j 1 = lg) && likeB ct (foC fo) (wt j) (wn j) (fun i => tf (fr + i)) ln) 0 nw) → ∀ ls : Array Slot, lv_has ls 7 [(0, .ref v), (1, .int lg), (2, .ref th), (3, .int (nI fr)), (4, .int (nI ln)), (5, .int (nI k))] → W pr l en { frames := 2, cells := 0, slots := 0, locals := 48 } ss mi ([.ref v, .int lg, .ref th, .int (nI fr), .int (nI ln)] : List Value).toArray below meth cd ss.heap [] 0 0 (MQ below (k2_QcV (.int (oI (fwC ct fo wz wn wt nw tf lg fr ln)))) ([.ref v, .int lg, .ref th, .int (nI fr), .int (nI ln)] : List Value).toArray ss 0 0 (fun _ => False)) (F0 mi 3 ls []) := by
    intro fuel
    induction fuel with
    | zero => intro k hm; exact absurd hm (Nat.not_lt_zero _)
    | succ fuel ih =>
      intro k hm hk hr  ls hl
      refine lv_iload hx hb dX8_likeIn_3 (lv_at hl 5 rfl) ?_
      refine lv_aload_n hx hb dX8_likeIn_5 rfl (lv_at hl 0 rfl) ?_
      refine va_get (D := D) (ci := 8) (C := RX8) (T := TX8) (N := 5) hx hb hts in_X8 hown hK hP 0 rfl rfl 3 (by decide) fl_27 (fun _ h9 => h9) rfl dX8_likeIn_6 ?_
      refine lv_icmp_ge (tgt := 62) hx hb dX8_likeIn_9 (by decide) (fun c_9 => ?_) (fun c_9 => ?_)
      · have hkm : k = nw := eq_ge c_9 hk (by omega)
        refine lv_iconst (v := -1) hx hb dX8_likeIn_62 (by decide) ?_
        exact ro_iret X (by show _ = oI (fiO _ 0 nw); rw [← hr, hkm, fiO_end]; rfl) dX8_likeIn_63
      · have hlt : k < nw := lt_nge c_9 hk (by omega)
        refine lv_aload_n hx hb dX8_likeIn_12 rfl (lv_at hl 0 rfl) ?_
        refine lv_iload hx hb dX8_likeIn_13 (lv_at hl 5 rfl) ?_
        refine ro_V (n := 1) X hK (c_X8_known) gX8_likeIn_X8_known rfl (by decide +kernel) ⟨rfl, rfl⟩ ⟨Nat.le_of_ble_eq_true rfl, Nat.le_of_ble_eq_true rfl⟩ (hP.sub [0, 1] rfl) (va_recv hK hP (ci := 8) (q0 := 0) rfl rfl) rfl hl.1 rfl (Nat.le_of_ble_eq_true rfl) dX8_likeIn_15 ⟨Nat.zero_le _, Nat.zero_le _⟩ ?_
        refine rf_eq (kn_nI hlt hnw hwf) ?_
        have hw : va_P D vwCl [((wa k 0), .inr (9, [.ref (wa k 1), .int (wz k 1), .int (wz k 2), .int (wz k 3), .int (wz k 4), .int (wz k 5)])), ((wa k 1), .inr (4, [.ref (wa k 2), .int (nI (wn k))])), ((wa k 2), .inl (cI, (wn k), .inl (wt k)))] _ := memP (w := wCells cI wa wz wn wt k) hP (fun q hq => List.mem_cons_of_mem _ (List.mem_cons_of_mem _ (List.mem_cons_of_mem _ (List.mem_cons_of_mem _ (List.mem_cons_of_mem _ (List.mem_cons_of_mem _ ((hdw k hlt).2 q hq)))))))
        refine lv_astore (lv' := [(6, _), (0, _), (1, _), (2, _), (3, _), (4, _), (5, _)]) hx hb dX8_likeIn_18 hl (by decide) rfl (fun ls hl => ?_)
        refine lv_aload hx hb dX8_likeIn_20 (lv_at hl 0 rfl) ?_
        refine lv_ifnull hx hb dX8_likeIn_22 ?_
        refine lv_aload hx hb dX8_likeIn_25 (lv_at hl 0 rfl) ?_
        refine va_get (D := D) (ci := 9) (C := RX9) (T := TX9) (N := 6) hx hb hts in_X9 hown hK hw 0 rfl rfl 1 (by decide) fl_35 (fun _ h9 => h9) rfl dX8_likeIn_27 ?_
        refine lv_iload_n hx hb dX8_likeIn_30 rfl (lv_at hl 2 rfl) ?_
        refine lv_icmp_ne (tgt := 56) hx hb dX8_likeIn_31 (by decide) (fun c_31 => ?_) (fun c_31 => ?_)
        · refine lv_iinc (v := (_ : Int32) + 1) (lv' := [(5, _), (6, _), (0, _), (1, _), (2, _), (3, _), (4, _)]) hx hb dX8_likeIn_56 hl (k := 6) rfl rfl (by decide) rfl (fun ls hl => ?_)
          refine lv_goto (tgt := 3) hx hb dX8_likeIn_59 (by decide) ?_
          rw [nI_1] at hl
          exact ih (k + 1) (by omega) (by omega) (by rw [← hr, fiO_miss (p := (fun j => decide (wz j 1 = lg) && likeB ct (foC fo) (wt j) (wn j) (fun i => tf (fr + i)) ln)) hlt (by first | (simp [c_31]; done) | simp [c_31, c_50])])  _ (lv_sub hl [2, 3, 4, 5, 6, 0] rfl)
        · refine lv_aload_n hx hb dX8_likeIn_34 rfl (lv_at hl 1 rfl) ?_
          refine va_get (D := D) (ci := 8) (C := RX8) (T := TX8) (N := 5) hx hb hts in_X8 hown hK hP 0 rfl rfl 0 (by decide) fl_9 (fun _ h9 => h9) rfl dX8_likeIn_35 ?_
          refine lv_aload hx hb dX8_likeIn_38 (lv_at hl 0 rfl) ?_
          refine va_get (D := D) (ci := 9) (C := RX9) (T := TX9) (N := 6) hx hb hts in_X9 hown hK hw 0 rfl rfl 0 (by decide) fl_38 (fun _ h9 => h9) rfl dX8_likeIn_40 ?_
          refine lv_aload_n hx hb dX8_likeIn_43 rfl (lv_at hl 3 rfl) ?_
          refine lv_iload_n hx hb dX8_likeIn_44 rfl (lv_at hl 4 rfl) ?_
          refine lv_iload hx hb dX8_likeIn_45 (lv_at hl 5 rfl) ?_
          refine ro_V (n := 4) X hK (c_X3_areLike hct (by have := (hdw k hlt).1; omega) htN (Nat.le_refl _) htn hfl) gX8_likeIn_X3_areLike rfl (by decide +kernel) ⟨rfl, rfl⟩ ⟨Nat.le_of_ble_eq_true rfl, Nat.le_of_ble_eq_true rfl⟩ (va_P.app (hP.sub (ws' := [_, _]) [2, 3] rfl) (va_P.app (hw.sub (ws' := [_, _]) [1, 2] rfl) (hP.sub (ws' := [_, _]) [4, 5] rfl))) (va_recv hK hP (ci := 3) (q0 := 2) rfl rfl) rfl hl.1 rfl (Nat.le_of_ble_eq_true rfl) dX8_likeIn_47 ⟨Nat.zero_le _, Nat.zero_le _⟩ ?_
          refine lv_if_eq (tgt := 56) hx hb dX8_likeIn_50 (by decide) (fun c_50 => ?_) (fun c_50 => ?_)
          · replace c_50 := bI_0.mp c_50
            refine lv_iinc (v := (_ : Int32) + 1) (lv' := [(5, _), (6, _), (0, _), (1, _), (2, _), (3, _), (4, _)]) hx hb dX8_likeIn_56 hl (k := 6) rfl rfl (by decide) rfl (fun ls hl => ?_)
            refine lv_goto (tgt := 3) hx hb dX8_likeIn_59 (by decide) ?_
            rw [nI_1] at hl
            exact ih (k + 1) (by omega) (by omega) (by rw [← hr, fiO_miss (p := (fun j => decide (wz j 1 = lg) && likeB ct (foC fo) (wt j) (wn j) (fun i => tf (fr + i)) ln)) hlt (by first | (simp [c_31]; done) | simp [c_31, c_50])])  _ (lv_sub hl [2, 3, 4, 5, 6, 0] rfl)
          · replace c_50 := bI_n0.mp c_50
            refine lv_iload hx hb dX8_likeIn_53 (lv_at hl 6 rfl) ?_
            exact ro_iret X (by show _ = oI (fiO _ 0 nw); rw [← hr, fiO_hit (p := (fun j => decide (wz j 1 = lg) && likeB ct (foC fo) (wt j) (wn j) (fun i => tf (fr + i)) ln)) hlt (by simp [c_31, c_50])]; rfl) dX8_likeIn_55
  exact loop_3 (nw + 1) 0 (by omega) (Nat.zero_le _) rfl  ls (lv_sub hl [1, 2, 3, 4, 5, 0] rfl)

set_option maxHeartbeats 1000000 in
set_option maxRecDepth 100000 in
theorem c_X8_joinLike {l : Launch} {D : va_G} {cI cJ cW : ClassId} {t v vw vj nw nj : Nat} {wf jf : Nat → Option Nat} {fa ct : Nat} {fo : Nat → Int32} {th tb tn tN : Nat} {tf : Nat → Int32} {fr ln : Nat} {dy : va_W} {ja : Nat → Nat → Nat} {jz : Nat → Nat → Int32} {jn : Nat → Nat} {jt : Nat → Nat → Int32} (hct : ct < 2 ^ 31) (htN : tN < 2 ^ 31) (htn : tn ≤ tN) (hfl : fr + ln ≤ tn) (hnj : nj ≤ 8) (hjf : ∀ i, i < nj → jf i = some (ja i 0)) (hdj : Dj cI ja jz jn jt nj dy) : RO l yX8_joinLike wsX8_joinLike { frames := 2, cells := 0, slots := 0, locals := 48 } D (ty3 cI cJ cW) [.ref v, .ref th, .int (nI fr), .int (nI ln)] ((v, .inr (8, [.ref t, .ref vw, .ref vj, .int (nI nw), .int (nI nj)])) :: (vj, .inl (cJ, 8, .inr (.inr (.inr (.inr jf))))) :: (t, .inr (3, [.int (nI ct), .ref fa])) :: (fa, .inl (cI, 32, .inl fo)) :: (th, .inr (4, [.ref tb, .int (nI tn)])) :: (tb, .inl (cI, tN, .inl tf)) :: dy) (va_rf ((fjC ct fo jn jt nj tf fr ln).map (fun j => ja j 0))) := by
  refine ro_of (cc := cX8_joinLike) (maxL := 6) (ret := (some (.object "WordTables$Join"))) (by decide) rfl (Nat.le_of_ble_eq_true rfl) ?_
  intro pr en ss mi below meth cd X hP hK ls hl
  obtain ⟨hx, hb, hml, hown, hts, hr, hlocks⟩ := id X
  have fl_23 := hts (.fieldLink RX8 23 "WordTables$Vocabulary" "joins" "[LWordTables$Join;") (by decide +kernel)
  have fl_48 := hts (.fieldLink RX8 48 "WordTables$Vocabulary" "joinCount" "I") (by decide +kernel)
  have fl_51 := hts (.fieldLink RX8 51 "WordTables$Join" "spelling" "LWordTables$Row;") (by decide +kernel)
  have fl_9 := hts (.fieldLink RX8 9 "WordTables$Vocabulary" "letters" "LWordTables$Letters;") (by decide +kernel)
  have in_X2 : ∀ w ∈ wsX20, w ∈ wsX8_joinLike := by decide +kernel
  have in_X8 : ∀ w ∈ wsX80, w ∈ wsX8_joinLike := by decide +kernel
  have hl : lv_has ls 6 [(0, .ref v), (1, .ref th), (2, .int (nI fr)), (3, .int (nI ln))] := hl
  refine lv_iconst (v := 0) hx hb dX8_joinLike_0 (by decide) ?_
  refine lv_istore (lv' := [(4, _), (0, _), (1, _), (2, _), (3, _)]) hx hb dX8_joinLike_1 hl (by decide) rfl (fun ls hl => ?_)
  have loop_3 : ∀ (fuel : Nat) (k : Nat), nj - k < fuel → k ≤ nj → (fiO (fun j => likeB ct (foC fo) (jt j) (jn j) (fun i => tf (fr + i)) ln) k (nj - k) = fiO (fun j => likeB ct (foC fo) (jt j) (jn j) (fun i => tf (fr + i)) ln) 0 nj) → ∀ ls : Array Slot, lv_has ls 6 [(0, .ref v), (1, .ref th), (2, .int (nI fr)), (3, .int (nI ln)), (4, .int (nI k))] → W pr l en { frames := 2, cells := 0, slots := 0, locals := 48 } ss mi ([.ref v, .ref th, .int (nI fr), .int (nI ln)] : List Value).toArray below meth cd ss.heap [] 0 0 (MQ below (k2_QcV (va_rf ((fjC ct fo jn jt nj tf fr ln).map (fun j => ja j 0)))) ([.ref v, .ref th, .int (nI fr), .int (nI ln)] : List Value).toArray ss 0 0 (fun _ => False)) (F0 mi 3 ls []) := by
    intro fuel
    induction fuel with
    | zero => intro k hm; exact absurd hm (Nat.not_lt_zero _)
    | succ fuel ih =>
      intro k hm hk hr  ls hl
      refine lv_iload hx hb dX8_joinLike_3 (lv_at hl 4 rfl) ?_
      refine lv_aload_n hx hb dX8_joinLike_5 rfl (lv_at hl 0 rfl) ?_
      refine va_get (D := D) (ci := 8) (C := RX8) (T := TX8) (N := 5) hx hb hts in_X8 hown hK hP 0 rfl rfl 4 (by decide) fl_48 (fun _ h9 => h9) rfl dX8_joinLike_6 ?_
      refine lv_icmp_ge (tgt := 63) hx hb dX8_joinLike_9 (by decide) (fun c_9 => ?_) (fun c_9 => ?_)
      · have hkm : k = nj := by first | exact eq_ge c_9 hk (by omega) | exact absurd c_19 (nI_ge (show k < 8 by omega) (by decide))
        refine lv_null hx hb dX8_joinLike_63 ?_
        exact ro_aret X (by show _ = va_rf ((fiO _ 0 nj).map _); rw [← hr, hkm, fiO_end]; rfl) dX8_joinLike_64
      · have hlt : k < nj := lt_nge c_9 hk (by omega)
        refine lv_iload hx hb dX8_joinLike_12 (lv_at hl 4 rfl) ?_
        refine lv_aload_n hx hb dX8_joinLike_14 rfl (lv_at hl 0 rfl) ?_
        refine va_get (D := D) (ci := 8) (C := RX8) (T := TX8) (N := 5) hx hb hts in_X8 hown hK hP 0 rfl rfl 2 (by decide) fl_23 (fun _ h9 => h9) rfl dX8_joinLike_15 ?_
        refine va_alen (v := nI 8) hx hb hK hP 1 1 rfl rfl rfl dX8_joinLike_18 ?_
        refine lv_icmp_ge (tgt := 63) hx hb dX8_joinLike_19 (by decide) (fun c_19 => ?_) (fun c_19 => ?_)
        · have hkm : k = nj := by first | exact eq_ge c_9 hk (by omega) | exact absurd c_19 (nI_ge (show k < 8 by omega) (by decide))
          refine lv_null hx hb dX8_joinLike_63 ?_
          exact ro_aret X (by show _ = va_rf ((fiO _ 0 nj).map _); rw [← hr, hkm, fiO_end]; rfl) dX8_joinLike_64
        · refine lv_aload_n hx hb dX8_joinLike_22 rfl (lv_at hl 0 rfl) ?_
          refine va_get (D := D) (ci := 8) (C := RX8) (T := TX8) (N := 5) hx hb hts in_X8 hown hK hP 0 rfl rfl 2 (by decide) fl_23 (fun _ h9 => h9) rfl dX8_joinLike_23 ?_
          refine lv_iload hx hb dX8_joinLike_26 (lv_at hl 4 rfl) ?_
          refine aldq_n hx hb hK hP 1 1 rfl rfl (show k < 8 by omega) (by decide) dX8_joinLike_28 ?_
          refine rf_eq (hjf k hlt) ?_
          have hw : va_P D vwCl [((ja k 0), .inr (2, [.ref (ja k 1), .int (jz k 1), .int (jz k 2)])), ((ja k 1), .inr (4, [.ref (ja k 2), .int (nI (jn k))])), ((ja k 2), .inl (cI, (jn k), .inl (jt k)))] _ := memP (w := jCells cI ja jz jn jt k) hP (fun q hq => List.mem_cons_of_mem _ (List.mem_cons_of_mem _ (List.mem_cons_of_mem _ (List.mem_cons_of_mem _ (List.mem_cons_of_mem _ (List.mem_cons_of_mem _ ((hdj k hlt).2 q hq)))))))
          refine lv_astore (lv' := [(5, _), (0, _), (1, _), (2, _), (3, _), (4, _)]) hx hb dX8_joinLike_29 hl (by decide) rfl (fun ls hl => ?_)
          refine lv_aload hx hb dX8_joinLike_31 (lv_at hl 0 rfl) ?_
          refine lv_ifnull hx hb dX8_joinLike_33 ?_
          refine lv_aload_n hx hb dX8_joinLike_36 rfl (lv_at hl 1 rfl) ?_
          refine va_get (D := D) (ci := 8) (C := RX8) (T := TX8) (N := 5) hx hb hts in_X8 hown hK hP 0 rfl rfl 0 (by decide) fl_9 (fun _ h9 => h9) rfl dX8_joinLike_37 ?_
          refine lv_aload hx hb dX8_joinLike_40 (lv_at hl 0 rfl) ?_
          refine va_get (D := D) (ci := 2) (C := RX2) (T := TX2) (N := 3) hx hb hts in_X2 hown hK hw 0 rfl rfl 0 (by decide) fl_51 (fun _ h9 => h9) rfl dX8_joinLike_42 ?_
          refine lv_aload_n hx hb dX8_joinLike_45 rfl (lv_at hl 2 rfl) ?_
          refine lv_iload_n hx hb dX8_joinLike_46 rfl (lv_at hl 3 rfl) ?_
          refine lv_iload_n hx hb dX8_joinLike_47 rfl (lv_at hl 4 rfl) ?_
          refine ro_V (n := 4) X hK (c_X3_areLike hct (by have := (hdj k hlt).1; omega) htN (Nat.le_refl _) htn hfl) gX8_joinLike_X3_areLike rfl (by decide +kernel) ⟨rfl, rfl⟩ ⟨Nat.le_of_ble_eq_true rfl, Nat.le_of_ble_eq_true rfl⟩ (va_P.app (hP.sub (ws' := [_, _]) [2, 3] rfl) (va_P.app (hw.sub (ws' := [_, _]) [1, 2] rfl) (hP.sub (ws' := [_, _]) [4, 5] rfl))) (va_recv hK hP (ci := 3) (q0 := 2) rfl rfl) rfl hl.1 rfl (Nat.le_of_ble_eq_true rfl) dX8_joinLike_48 ⟨Nat.zero_le _, Nat.zero_le _⟩ ?_
          refine lv_if_eq (tgt := 57) hx hb dX8_joinLike_51 (by decide) (fun c_51 => ?_) (fun c_51 => ?_)
          · replace c_51 := bI_0.mp c_51
            refine lv_iinc (v := (_ : Int32) + 1) (lv' := [(4, _), (5, _), (0, _), (1, _), (2, _), (3, _)]) hx hb dX8_joinLike_57 hl (k := 5) rfl rfl (by decide) rfl (fun ls hl => ?_)
            refine lv_goto (tgt := 3) hx hb dX8_joinLike_60 (by decide) ?_
            rw [nI_1] at hl
            exact ih (k + 1) (by omega) (by omega) (by rw [← hr, fiO_miss (p := (fun j => likeB ct (foC fo) (jt j) (jn j) (fun i => tf (fr + i)) ln)) hlt (by simp [c_51])])  _ (lv_sub hl [2, 3, 4, 5, 0] rfl)
          · replace c_51 := bI_n0.mp c_51
            refine lv_aload hx hb dX8_joinLike_54 (lv_at hl 0 rfl) ?_
            exact ro_aret X (by show _ = va_rf ((fiO _ 0 nj).map _); rw [← hr, fiO_hit (p := (fun j => likeB ct (foC fo) (jt j) (jn j) (fun i => tf (fr + i)) ln)) hlt (by simp [c_51])]; rfl) dX8_joinLike_56
  exact loop_3 (nj + 1) 0 (by omega) (Nat.zero_le _) rfl  ls (lv_sub hl [1, 2, 3, 4, 0] rfl)
end
section
/-! the line cut into tokens: what both sides come to -/
def isDi (c : Int32) : Bool := !decide (c < 48) && !decide (57 < c)
def isMk (c : Int32) : Bool := decide (c = 46) || decide (c = 44) || decide (c = 59) || decide (c = 33) || decide (c = 63)
def isOt (c : Int32) : Bool := !decide (c = 32) && !decide (c = 34) && !isMk c && !isDi c && !isLe c
def nQu (c : Int32) : Bool := !decide (c = 34)
def bt (n : Nat) (L : Nat → Int32) (k : Nat) : Int32 := if k < n then L k else -1
theorem rowAt_bt {n k : Nat} {L : Nat → Int32} (hn : n ≤ 80) (hk : k < 2 ^ 31) : rowAt (nI n) 80 L (nI k) = bt n L k := by
  by_cases h : k < n
  · rw [rowAt_lt h (by omega) (by omega) (by decide), bt, if_pos h]
  · have h1 : ¬ nI k < 0 := nI_pos hk
    have h2 : nI n ≤ nI k := nI_le (by omega) hk
    simp [rowAt, bt, h, h1, h2]
def spF (P : Int32 → Bool) (L : Nat → Int32) : Nat → Nat → Nat
  | k, 0 => k
  | k, m + 1 => if P (L k) = true then spF P L (k + 1) m else k
def sp (P : Int32 → Bool) (L : Nat → Int32) (n k : Nat) : Nat := spF P L k (n - k)
theorem sp_ge {P : Int32 → Bool} {L : Nat → Int32} {n k : Nat} (h : n ≤ k) : sp P L n k = k := by
  rw [sp, Nat.sub_eq_zero_of_le h, spF]
theorem sp_t {P : Int32 → Bool} {L : Nat → Int32} {n k : Nat} (h : k < n) (hp : P (L k) = true) : sp P L n k = sp P L n (k + 1) := by
  rw [sp, sp, show n - k = (n - (k + 1)) + 1 by omega, spF, if_pos hp]
theorem sp_f {P : Int32 → Bool} {L : Nat → Int32} {n k : Nat} (h : k < n) (hp : P (L k) = false) : sp P L n k = k := by
  rw [sp, show n - k = (n - (k + 1)) + 1 by omega, spF, if_neg (by rw [hp]; exact Bool.false_ne_true)]
theorem spF_le {P : Int32 → Bool} {L : Nat → Int32} : ∀ m k, k ≤ spF P L k m ∧ spF P L k m ≤ k + m
  | 0, k => ⟨Nat.le_refl _, Nat.le_refl _⟩
  | m + 1, k => by
    rw [spF]
    split
    · have := spF_le (P := P) (L := L) m (k + 1); omega
    · omega
theorem sp_le {P : Int32 → Bool} {L : Nat → Int32} {n k : Nat} : k ≤ sp P L n k := (spF_le _ _).1
theorem sp_n {P : Int32 → Bool} {L : Nat → Int32} {n k : Nat} (h : k ≤ n) : sp P L n k ≤ n := by
  have := (spF_le (P := P) (L := L) (n - k) k).2
  rw [sp]; omega
theorem spF_all {P : Int32 → Bool} {L : Nat → Int32} : ∀ m k i, k ≤ i → i < spF P L k m → P (L i) = true
  | 0, k, i, h1, h2 => by rw [spF] at h2; omega
  | m + 1, k, i, h1, h2 => by
    rw [spF] at h2
    by_cases hp : P (L k) = true
    · rw [if_pos hp] at h2
      by_cases hi : i = k
      · rw [hi]; exact hp
      · exact spF_all m (k + 1) i (by omega) h2
    · rw [if_neg hp] at h2; omega
theorem sp_all {P : Int32 → Bool} {L : Nat → Int32} {n k i : Nat} (h1 : k ≤ i) (h2 : i < sp P L n k) : P (L i) = true := spF_all _ _ _ h1 h2
theorem spF_stop {P : Int32 → Bool} {L : Nat → Int32} : ∀ m k, spF P L k m < k + m → P (L (spF P L k m)) = false
  | 0, k, h => by rw [spF] at h; omega
  | m + 1, k, h => by
    rw [spF] at h ⊢
    by_cases hp : P (L k) = true
    · rw [if_pos hp] at h ⊢
      exact spF_stop m (k + 1) (by omega)
    · rw [if_neg hp]
      exact Bool.eq_false_iff.mpr hp
theorem sp_stop {P : Int32 → Bool} {L : Nat → Int32} {n k : Nat} (hk : k ≤ n) (h : sp P L n k < n) : P (L (sp P L n k)) = false := spF_stop _ _ (by rw [sp] at h; omega)
def dgN (c : Int32) : Nat := (c - 48).toNatClampNeg
theorem dg_of {c : Int32} (h : isDi c = true) : ∃ d, d ≤ 9 ∧ c = nI (48 + d) ∧ dgN c = d := by
  simp only [isDi, Bool.and_eq_true, Bool.not_eq_true', decide_eq_false_iff_not] at h
  obtain ⟨j, hj, rfl⟩ := nI_of2 (x := c) (M := 57) (n := 57) (by decide) (fun q => h.1 (by rw [Int32.lt_iff_toInt_lt] at *; have : (0 : Int32).toInt = 0 := rfl; have : (48 : Int32).toInt = 48 := rfl; omega)) (by rw [Int32.le_iff_toInt_le]; have := h.2; rw [Int32.lt_iff_toInt_lt] at this; omega)
  have h48 : 48 ≤ j := by
    rcases Nat.lt_or_ge j 48 with q | q
    · exact absurd (nI_lt (b := 48) q (by decide)) h.1
    · exact q
  refine ⟨j - 48, by omega, by rw [show 48 + (j - 48) = j by omega], ?_⟩
  rw [dgN, show (48 : Int32) = nI 48 from rfl, pk_sub h48, nI_clamp (by omega)]
def numN (L : Nat → Int32) : Nat → Nat → Nat → Nat
  | _, 0, v => v
  | k, m + 1, v => numN L (k + 1) m (10 * v + dgN (L k))
abbrev TS : Type := Nat × Int32 × (Nat → Nat → Int32)
def ad4 (τ : TS) (x1 x2 x3 x4 : Int32) : TS := (adN τ.1, adM τ.1 τ.2.1, fun i => adF (τ.2.2 i) τ.1 (if i = 1 then x1 else if i = 2 then x2 else if i = 3 then x3 else x4))
theorem adN_le {tc : Nat} (h : tc ≤ 24) : adN tc ≤ 24 := by unfold adN; split <;> omega
theorem ad4_le {τ : TS} {x1 x2 x3 x4 : Int32} (h : τ.1 ≤ 24) : (ad4 τ x1 x2 x3 x4).1 ≤ 24 := adN_le h
def tmB (n : Nat) (L : Nat → Int32) (p c : Nat) : Bool := decide (c - p ≤ 2) && decide (bt n L c = 58) && decide (sp isDi L n (c + 1) = c + 3) && decide (numN L p (c - p) 0 ≤ 23) && decide (numN L (c + 1) 2 0 ≤ 59)
def hdB (fo : Int32 → Int32) (n : Nat) (L : Nat → Int32) (e : Nat) : Bool := (decide (fo (bt n L e) = 97) || decide (fo (bt n L e) = 112)) && decide (fo (bt n L (e + 1)) = 109) && !isLe (bt n L (e + 2))
/-- a time at p, its colon at c -/
def tTok (fo : Int32 → Int32) (n : Nat) (L : Nat → Int32) (p c : Nat) (τ : TS) : Nat × TS :=
  let h := numN L p (c - p) 0
  let mi := numN L (c + 1) 2 0
  if 1 ≤ h ∧ h ≤ 12 ∧ hdB fo n L (c + 3) = true then (c + 5, ad4 τ 3 (nI p) (nI (c + 5 - p)) (nI (60 * ((if h = 12 then 0 else h) + (if fo (bt n L (c + 3)) = 112 then 12 else 0)) + mi)))
  else (c + 3, ad4 τ 3 (nI p) (nI (c + 3 - p)) (nI (60 * h + mi)))
def dTok (fo : Int32 → Int32) (n : Nat) (L : Nat → Int32) (p : Nat) (τ : TS) : Nat × TS :=
  let e := sp isDi L n p
  if tmB n L p e = true then tTok fo n L p e τ
  else if numN L p (e - p) 0 ≤ 30000 then (e, ad4 τ 2 (nI p) (nI (e - p)) (nI (numN L p (e - p) 0)))
  else (e, ad4 τ 6 (nI p) (nI (e - p)) (-1))
def qTok (n : Nat) (L : Nat → Int32) (p : Nat) (τ : TS) : Nat × TS :=
  let e := sp nQu L n (p + 1)
  if n ≤ e then (e, ad4 τ 6 (nI p) (nI (e - p)) (-1)) else (e + 1, ad4 τ 4 (nI p) (nI (e + 1 - p)) (nI (e - p - 1)))
def oTok (n : Nat) (L : Nat → Int32) (p : Nat) (τ : TS) : Nat × TS :=
  let e := sp isOt L n (p + 1)
  (e, ad4 τ 6 (nI p) (nI (e - p)) (-1))
def lTok (fw : Int32 → Nat → Nat → Option Nat) (fj : Nat → Nat → Option Nat) (j1 j2 : Nat → Int32) (lg : Int32) (n : Nat) (L : Nat → Int32) (p : Nat) (τ : TS) : Nat × TS :=
  let e := sp isLe L n p
  match fw lg p (e - p) with
  | some j => (e, ad4 τ 0 (nI p) (nI (e - p)) (nI j))
  | none => match fw 0 p (e - p) with
    | some j => (e, ad4 τ 0 (nI p) (nI (e - p)) (nI j))
    | none => match fj p (e - p) with
      | some j => (e, ad4 (ad4 τ 0 (nI p) (nI (e - p)) (j1 j)) 0 (nI p) (nI (e - p)) (j2 j))
      | none => (e, ad4 τ 1 (nI p) (nI (e - p)) (-1))
def aTok (fo : Int32 → Int32) (fw : Int32 → Nat → Nat → Option Nat) (fj : Nat → Nat → Option Nat) (j1 j2 : Nat → Int32) (lg : Int32) (n : Nat) (L : Nat → Int32) (p : Nat) (τ : TS) : Nat × TS :=
  if L p = 32 then (p + 1, τ) else if isLe (L p) = true then lTok fw fj j1 j2 lg n L p τ else if isDi (L p) = true then dTok fo n L p τ else if L p = 34 then qTok n L p τ
  else if isMk (L p) = true then (p + 1, ad4 τ 5 (nI p) (nI 1) (L p)) else oTok n L p τ
def cutL (fo : Int32 → Int32) (fw : Int32 → Nat → Nat → Option Nat) (fj : Nat → Nat → Option Nat) (j1 j2 : Nat → Int32) (lg : Int32) (n : Nat) (L : Nat → Int32) : Nat → Nat → TS → TS
  | 0, _, τ => τ
  | m + 1, p, τ => if p < n then cutL fo fw fj j1 j2 lg n L m (aTok fo fw fj j1 j2 lg n L p τ).1 (aTok fo fw fj j1 j2 lg n L p τ).2 else τ
theorem nI_sub1 {e p : Nat} (h : p ≤ e) : nI e - nI p = nI (e - p) := pk_sub h
theorem tTok_le {fo : Int32 → Int32} {n : Nat} {L : Nat → Int32} {p c : Nat} {τ : TS} (h : τ.1 ≤ 24) : (tTok fo n L p c τ).2.1 ≤ 24 := by
  simp only [tTok]; split <;> exact ad4_le h
theorem dTok_le {fo : Int32 → Int32} {n : Nat} {L : Nat → Int32} {p : Nat} {τ : TS} (h : τ.1 ≤ 24) : (dTok fo n L p τ).2.1 ≤ 24 := by
  simp only [dTok]; split
  · exact tTok_le h
  · split <;> exact ad4_le h
theorem lTok_le {fw : Int32 → Nat → Nat → Option Nat} {fj : Nat → Nat → Option Nat} {j1 j2 : Nat → Int32} {lg : Int32} {n : Nat} {L : Nat → Int32} {p : Nat} {τ : TS} (h : τ.1 ≤ 24) : (lTok fw fj j1 j2 lg n L p τ).2.1 ≤ 24 := by
  simp only [lTok]; split
  · exact ad4_le h
  · split
    · exact ad4_le h
    · split
      · exact ad4_le (ad4_le h)
      · exact ad4_le h
theorem aTok_le {fo : Int32 → Int32} {fw : Int32 → Nat → Nat → Option Nat} {fj : Nat → Nat → Option Nat} {j1 j2 : Nat → Int32} {lg : Int32} {n : Nat} {L : Nat → Int32} {p : Nat} {τ : TS} (h : τ.1 ≤ 24) : (aTok fo fw fj j1 j2 lg n L p τ).2.1 ≤ 24 := by
  unfold aTok
  repeat' split
  · exact h
  · exact lTok_le h
  · exact dTok_le h
  · simp only [qTok]; split <;> exact ad4_le h
  · exact ad4_le h
  · exact ad4_le h
theorem tm_sp {n : Nat} {L : Nat → Int32} {p c : Nat} (h : tmB n L p c = true) : sp isDi L n (c + 1) = c + 3 ∧ c + 3 ≤ n := by
  simp only [tmB, Bool.and_eq_true, decide_eq_true_eq] at h
  have h1 := h.1.1.2
  refine ⟨h1, ?_⟩
  rcases Nat.lt_or_ge n (c + 1) with q | q
  · rw [sp_ge (by omega)] at h1; omega
  · have := sp_n (P := isDi) (L := L) (n := n) (k := c + 1) q; omega
theorem hd_le {fo : Nat → Int32} {n : Nat} {L : Nat → Int32} {e : Nat} (h : hdB (foC fo) n L e = true) : e + 2 ≤ n := by
  simp only [hdB, Bool.and_eq_true, decide_eq_true_eq] at h
  have h1 := h.1.2
  rcases Nat.lt_or_ge (e + 1) n with q | q
  · omega
  · rw [bt, if_neg (by omega)] at h1
    exact absurd h1 (by simp [foC, foB])

set_option maxHeartbeats 1000000 in
set_option maxRecDepth 100000 in
theorem c_X1_isDigit {l : Launch} {D : va_G} {cI cJ cW : ClassId} {x : Int32}  : RO l yX1_isDigit wsX1_isDigit { frames := 0, cells := 0, slots := 0, locals := 0 } D (ty3 cI cJ cW) [.int x] [] (.int (bI (isDi x))) := by
  refine ro_of (cc := cX1_isDigit) (maxL := 1) (ret := (some .boolean)) (by decide) rfl (Nat.le_of_ble_eq_true rfl) ?_
  intro pr en ss mi below meth cd X hP hK ls hl
  obtain ⟨hx, hb, hml, hown, hts, hr, hlocks⟩ := id X
  have hl : lv_has ls 1 [(0, .int x)] := hl
  refine lv_iload_n hx hb dX1_isDigit_0 rfl (lv_at hl 0 rfl) ?_
  refine lv_bipush (v := 48) hx hb dX1_isDigit_1 (by decide) ?_
  refine lv_icmp_lt (tgt := 16) hx hb dX1_isDigit_3 (by decide) (fun c_3 => ?_) (fun c_3 => ?_)
  · refine lv_iconst (v := 0) hx hb dX1_isDigit_16 (by decide) ?_
    exact ro_zret X (by simp [isDi, bI, c_3]) dX1_isDigit_17
  · refine lv_iload_n hx hb dX1_isDigit_6 rfl (lv_at hl 0 rfl) ?_
    refine lv_bipush (v := 57) hx hb dX1_isDigit_7 (by decide) ?_
    refine lv_icmp_gt (tgt := 16) hx hb dX1_isDigit_9 (by decide) (fun c_9 => ?_) (fun c_9 => ?_)
    · refine lv_iconst (v := 0) hx hb dX1_isDigit_16 (by decide) ?_
      exact ro_zret X (by simp [isDi, bI, c_3, c_9]) dX1_isDigit_17
    · refine lv_iconst (v := 1) hx hb dX1_isDigit_12 (by decide) ?_
      refine lv_goto (tgt := 17) hx hb dX1_isDigit_13 (by decide) ?_
      exact ro_zret X (by simp [isDi, bI, c_3, c_9]) dX1_isDigit_17

set_option maxHeartbeats 1000000 in
set_option maxRecDepth 100000 in
theorem c_X1_isMark {l : Launch} {D : va_G} {cI cJ cW : ClassId} {x : Int32}  : RO l yX1_isMark wsX1_isMark { frames := 0, cells := 0, slots := 0, locals := 0 } D (ty3 cI cJ cW) [.int x] [] (.int (bI (isMk x))) := by
  refine ro_of (cc := cX1_isMark) (maxL := 1) (ret := (some .boolean)) (by decide) rfl (Nat.le_of_ble_eq_true rfl) ?_
  intro pr en ss mi below meth cd X hP hK ls hl
  obtain ⟨hx, hb, hml, hown, hts, hr, hlocks⟩ := id X
  have hl : lv_has ls 1 [(0, .int x)] := hl
  refine lv_iload_n hx hb dX1_isMark_0 rfl (lv_at hl 0 rfl) ?_
  refine lv_bipush (v := 46) hx hb dX1_isMark_1 (by decide) ?_
  refine lv_icmp_eq (tgt := 30) hx hb dX1_isMark_3 (by decide) (fun c_3 => ?_) (fun c_3 => ?_)
  · refine lv_iconst (v := 1) hx hb dX1_isMark_30 (by decide) ?_
    refine lv_goto (tgt := 35) hx hb dX1_isMark_31 (by decide) ?_
    exact ro_zret X (by simp [isMk, bI, c_3]) dX1_isMark_35
  · refine lv_iload_n hx hb dX1_isMark_6 rfl (lv_at hl 0 rfl) ?_
    refine lv_bipush (v := 44) hx hb dX1_isMark_7 (by decide) ?_
    refine lv_icmp_eq (tgt := 30) hx hb dX1_isMark_9 (by decide) (fun c_9 => ?_) (fun c_9 => ?_)
    · refine lv_iconst (v := 1) hx hb dX1_isMark_30 (by decide) ?_
      refine lv_goto (tgt := 35) hx hb dX1_isMark_31 (by decide) ?_
      exact ro_zret X (by simp [isMk, bI, c_3, c_9]) dX1_isMark_35
    · refine lv_iload_n hx hb dX1_isMark_12 rfl (lv_at hl 0 rfl) ?_
      refine lv_bipush (v := 59) hx hb dX1_isMark_13 (by decide) ?_
      refine lv_icmp_eq (tgt := 30) hx hb dX1_isMark_15 (by decide) (fun c_15 => ?_) (fun c_15 => ?_)
      · refine lv_iconst (v := 1) hx hb dX1_isMark_30 (by decide) ?_
        refine lv_goto (tgt := 35) hx hb dX1_isMark_31 (by decide) ?_
        exact ro_zret X (by simp [isMk, bI, c_3, c_9, c_15]) dX1_isMark_35
      · refine lv_iload_n hx hb dX1_isMark_18 rfl (lv_at hl 0 rfl) ?_
        refine lv_bipush (v := 33) hx hb dX1_isMark_19 (by decide) ?_
        refine lv_icmp_eq (tgt := 30) hx hb dX1_isMark_21 (by decide) (fun c_21 => ?_) (fun c_21 => ?_)
        · refine lv_iconst (v := 1) hx hb dX1_isMark_30 (by decide) ?_
          refine lv_goto (tgt := 35) hx hb dX1_isMark_31 (by decide) ?_
          exact ro_zret X (by simp [isMk, bI, c_3, c_9, c_15, c_21]) dX1_isMark_35
        · refine lv_iload_n hx hb dX1_isMark_24 rfl (lv_at hl 0 rfl) ?_
          refine lv_bipush (v := 63) hx hb dX1_isMark_25 (by decide) ?_
          refine lv_icmp_ne (tgt := 34) hx hb dX1_isMark_27 (by decide) (fun c_27 => ?_) (fun c_27 => ?_)
          · refine lv_iconst (v := 0) hx hb dX1_isMark_34 (by decide) ?_
            exact ro_zret X (by simp [isMk, bI, c_3, c_9, c_15, c_21, c_27]) dX1_isMark_35
          · refine lv_iconst (v := 1) hx hb dX1_isMark_30 (by decide) ?_
            refine lv_goto (tgt := 35) hx hb dX1_isMark_31 (by decide) ?_
            exact ro_zret X (by simp [isMk, bI, c_3, c_9, c_15, c_21, c_27]) dX1_isMark_35

set_option maxHeartbeats 1000000 in
set_option maxRecDepth 100000 in
theorem c_X1_isOther {l : Launch} {D : va_G} {cI cJ cW : ClassId} {x : Int32}  : RO l yX1_isOther wsX1_isOther { frames := 2, cells := 0, slots := 0, locals := 40 } D (ty3 cI cJ cW) [.int x] [] (.int (bI (isOt x))) := by
  refine ro_of (cc := cX1_isOther) (maxL := 1) (ret := (some .boolean)) (by decide) rfl (Nat.le_of_ble_eq_true rfl) ?_
  intro pr en ss mi below meth cd X hP hK ls hl
  obtain ⟨hx, hb, hml, hown, hts, hr, hlocks⟩ := id X
  have hl : lv_has ls 1 [(0, .int x)] := hl
  refine lv_iload_n hx hb dX1_isOther_0 rfl (lv_at hl 0 rfl) ?_
  refine lv_bipush (v := 32) hx hb dX1_isOther_1 (by decide) ?_
  refine lv_icmp_eq (tgt := 37) hx hb dX1_isOther_3 (by decide) (fun c_3 => ?_) (fun c_3 => ?_)
  · refine lv_iconst (v := 0) hx hb dX1_isOther_37 (by decide) ?_
    exact ro_zret X (by simp [isOt, bI, c_3]) dX1_isOther_38
  · refine lv_iload_n hx hb dX1_isOther_6 rfl (lv_at hl 0 rfl) ?_
    refine lv_bipush (v := 34) hx hb dX1_isOther_7 (by decide) ?_
    refine lv_icmp_eq (tgt := 37) hx hb dX1_isOther_9 (by decide) (fun c_9 => ?_) (fun c_9 => ?_)
    · refine lv_iconst (v := 0) hx hb dX1_isOther_37 (by decide) ?_
      exact ro_zret X (by simp [isOt, bI, c_3, c_9]) dX1_isOther_38
    · refine lv_iload_n hx hb dX1_isOther_12 rfl (lv_at hl 0 rfl) ?_
      refine ro_S (n := 1) X hK (c_X1_isMark) gX1_isOther_X1_isMark rfl (by decide +kernel) ⟨rfl, rfl⟩ ⟨Nat.le_of_ble_eq_true rfl, Nat.le_of_ble_eq_true rfl⟩ (hP.sub [] rfl) rfl hl.1 rfl (Nat.le_of_ble_eq_true rfl) dX1_isOther_13 ⟨Nat.zero_le _, Nat.zero_le _⟩ ?_
      refine lv_if_ne (tgt := 37) hx hb dX1_isOther_16 (by decide) (fun c_16 => ?_) (fun c_16 => ?_)
      · replace c_16 := bI_n0.mp c_16
        refine lv_iconst (v := 0) hx hb dX1_isOther_37 (by decide) ?_
        exact ro_zret X (by simp [isOt, bI, c_3, c_9, c_16]) dX1_isOther_38
      · replace c_16 := bI_0.mp c_16
        refine lv_iload_n hx hb dX1_isOther_19 rfl (lv_at hl 0 rfl) ?_
        refine ro_S (n := 1) X hK (c_X1_isDigit) gX1_isOther_X1_isDigit rfl (by decide +kernel) ⟨rfl, rfl⟩ ⟨Nat.le_of_ble_eq_true rfl, Nat.le_of_ble_eq_true rfl⟩ (hP.sub [] rfl) rfl hl.1 rfl (Nat.le_of_ble_eq_true rfl) dX1_isOther_20 ⟨Nat.zero_le _, Nat.zero_le _⟩ ?_
        refine lv_if_ne (tgt := 37) hx hb dX1_isOther_23 (by decide) (fun c_23 => ?_) (fun c_23 => ?_)
        · replace c_23 := bI_n0.mp c_23
          refine lv_iconst (v := 0) hx hb dX1_isOther_37 (by decide) ?_
          exact ro_zret X (by simp [isOt, bI, c_3, c_9, c_16, c_23]) dX1_isOther_38
        · replace c_23 := bI_0.mp c_23
          refine lv_iload_n hx hb dX1_isOther_26 rfl (lv_at hl 0 rfl) ?_
          refine ro_S (n := 1) X hK (c_X3_isLetter) gX1_isOther_X3_isLetter rfl (by decide +kernel) ⟨rfl, rfl⟩ ⟨Nat.le_of_ble_eq_true rfl, Nat.le_of_ble_eq_true rfl⟩ (hP.sub [] rfl) rfl hl.1 rfl (Nat.le_of_ble_eq_true rfl) dX1_isOther_27 ⟨Nat.zero_le _, Nat.zero_le _⟩ ?_
          refine lv_if_ne (tgt := 37) hx hb dX1_isOther_30 (by decide) (fun c_30 => ?_) (fun c_30 => ?_)
          · replace c_30 := bI_n0.mp c_30
            refine lv_iconst (v := 0) hx hb dX1_isOther_37 (by decide) ?_
            exact ro_zret X (by simp [isOt, bI, c_3, c_9, c_16, c_23, c_30]) dX1_isOther_38
          · replace c_30 := bI_0.mp c_30
            refine lv_iconst (v := 1) hx hb dX1_isOther_33 (by decide) ?_
            refine lv_goto (tgt := 38) hx hb dX1_isOther_34 (by decide) ?_
            exact ro_zret X (by simp [isOt, bI, c_3, c_9, c_16, c_23, c_30]) dX1_isOther_38

set_option maxHeartbeats 1000000 in
set_option maxRecDepth 100000 in
theorem c_X1_endOfDigits {l : Launch} {D : va_G} {cI cJ cW : ClassId} {z t v th k tb n : Nat} {L : Nat → Int32} {lg : Int32} {p : Nat} (hn : n ≤ 80) (hp : p ≤ 100) : RO l yX1_endOfDigits wsX1_endOfDigits { frames := 1, cells := 0, slots := 0, locals := 21 } D (ty3 cI cJ cW) [.ref z, .int (nI p)] [(z, .inr (1, [.ref t, .ref v, .ref th, .ref k, .int lg])), (th, .inr (4, [.ref tb, .int (nI n)])), (tb, .inl (cI, 80, .inl L))] (.int (nI (sp isDi L n p))) := by
  refine ro_of (cc := cX1_endOfDigits) (maxL := 3) (ret := (some .int)) (by decide) rfl (Nat.le_of_ble_eq_true rfl) ?_
  intro pr en ss mi below meth cd X hP hK ls hl
  obtain ⟨hx, hb, hml, hown, hts, hr, hlocks⟩ := id X
  have fl_19 := hts (.fieldLink RX1 19 "WordTables$Cutter" "line" "LWordTables$Row;") (by decide +kernel)
  have fl_37 := hts (.fieldLink RX1 37 "WordTables$Row" "count" "I") (by decide +kernel)
  have in_X1 : ∀ w ∈ wsX10, w ∈ wsX1_endOfDigits := by decide +kernel
  have in_X4 : ∀ w ∈ wsX40, w ∈ wsX1_endOfDigits := by decide +kernel
  have hl : lv_has ls 3 [(0, .ref z), (1, .int (nI p))] := hl
  refine lv_iload_n hx hb dX1_endOfDigits_0 rfl (lv_at hl 1 rfl) ?_
  refine lv_istore_n (lv' := [(2, _), (0, _), (1, _)]) hx hb dX1_endOfDigits_1 rfl hl (by decide) rfl (fun ls hl => ?_)
  have loop_2 : ∀ (fuel : Nat) (j : Nat), n - j < fuel → j ≤ 100 → sp isDi L n j = sp isDi L n p → ∀ ls : Array Slot, lv_has ls 3 [(0, .ref z), (1, .int (nI p)), (2, .int (nI j))] → W pr l en { frames := 1, cells := 0, slots := 0, locals := 21 } ss mi ([.ref z, .int (nI p)] : List Value).toArray below meth cd ss.heap [] 0 0 (MQ below (k2_QcV (.int (nI (sp isDi L n p)))) ([.ref z, .int (nI p)] : List Value).toArray ss 0 0 (fun _ => False)) (F0 mi 2 ls []) := by
    intro fuel
    induction fuel with
    | zero => intro j hm; exact absurd hm (Nat.not_lt_zero _)
    | succ fuel ih =>
      intro j hm hj hr  ls hl
      refine lv_iload_n hx hb dX1_endOfDigits_2 rfl (lv_at hl 2 rfl) ?_
      refine lv_aload_n hx hb dX1_endOfDigits_3 rfl (lv_at hl 0 rfl) ?_
      refine va_get (D := D) (ci := 1) (C := RX1) (T := TX1) (N := 5) hx hb hts in_X1 hown hK hP 0 rfl rfl 2 (by decide) fl_19 (fun _ h9 => h9) rfl dX1_endOfDigits_4 ?_
      refine va_get (D := D) (ci := 4) (C := RX4) (T := TX4) (N := 2) hx hb hts in_X4 hown hK hP 1 rfl rfl 1 (by decide) fl_37 (fun _ h9 => h9) rfl dX1_endOfDigits_7 ?_
      refine lv_icmp_ge (tgt := 33) hx hb dX1_endOfDigits_10 (by decide) (fun c_10 => ?_) (fun c_10 => ?_)
      · refine lv_iload_n hx hb dX1_endOfDigits_33 rfl (lv_at hl 2 rfl) ?_
        exact ro_iret X (by first | rw [← hr, sp_f hlt c_24] | rw [← hr, sp_ge ((nI_leI (by omega) (by omega)).mp c_10)]) dX1_endOfDigits_34
      · have hlt : j < n := by first | exact lt_nge c_10 (by omega) (by omega) | exact Nat.lt_of_not_le (fun q => c_10 (nI_le q (by omega)))
        refine lv_aload_n hx hb dX1_endOfDigits_13 rfl (lv_at hl 0 rfl) ?_
        refine va_get (D := D) (ci := 1) (C := RX1) (T := TX1) (N := 5) hx hb hts in_X1 hown hK hP 0 rfl rfl 2 (by decide) fl_19 (fun _ h9 => h9) rfl dX1_endOfDigits_14 ?_
        refine lv_iload_n hx hb dX1_endOfDigits_17 rfl (lv_at hl 2 rfl) ?_
        refine ro_V (n := 1) X hK (c_X4_byteAt (by decide)) gX1_endOfDigits_X4_byteAt rfl (by decide +kernel) ⟨rfl, rfl⟩ ⟨Nat.le_of_ble_eq_true rfl, Nat.le_of_ble_eq_true rfl⟩ (hP.sub [1, 2] rfl) (va_recv hK hP (ci := 4) (q0 := 1) rfl rfl) rfl hl.1 rfl (Nat.le_of_ble_eq_true rfl) dX1_endOfDigits_18 ⟨Nat.zero_le _, Nat.zero_le _⟩ ?_
        rw [rowAt_lt hlt (by omega) (by omega) (by decide)]
        refine ro_S (n := 1) X hK (c_X1_isDigit) gX1_endOfDigits_X1_isDigit rfl (by decide +kernel) ⟨rfl, rfl⟩ ⟨Nat.le_of_ble_eq_true rfl, Nat.le_of_ble_eq_true rfl⟩ (hP.sub [] rfl) rfl hl.1 rfl (Nat.le_of_ble_eq_true rfl) dX1_endOfDigits_21 ⟨Nat.zero_le _, Nat.zero_le _⟩ ?_
        refine lv_if_eq (tgt := 33) hx hb dX1_endOfDigits_24 (by decide) (fun c_24 => ?_) (fun c_24 => ?_)
        · replace c_24 := bI_0.mp c_24
          refine lv_iload_n hx hb dX1_endOfDigits_33 rfl (lv_at hl 2 rfl) ?_
          exact ro_iret X (by first | rw [← hr, sp_f hlt c_24] | rw [← hr, sp_ge ((nI_leI (by omega) (by omega)).mp c_10)]) dX1_endOfDigits_34
        · replace c_24 := bI_n0.mp c_24
          refine lv_iinc (v := (_ : Int32) + 1) (lv' := [(2, _), (0, _), (1, _)]) hx hb dX1_endOfDigits_27 hl (k := 2) rfl rfl (by decide) rfl (fun ls hl => ?_)
          refine lv_goto (tgt := 2) hx hb dX1_endOfDigits_30 (by decide) ?_
          rw [nI_1] at hl
          exact ih (j + 1) (by omega) (by omega) (by rw [← hr, sp_t hlt c_24])  _ (lv_sub hl [1, 2, 0] rfl)
  exact loop_2 (n + 1) p (by omega) hp rfl  ls (lv_sub hl [1, 2, 0] rfl)

set_option maxHeartbeats 1000000 in
set_option maxRecDepth 100000 in
theorem c_X1_numberOf {l : Launch} {D : va_G} {cI cJ cW : ClassId} {z t v th k tb n : Nat} {L : Nat → Int32} {lg : Int32} {p q : Nat} (hn : n ≤ 80) (hq : q ≤ n) (hpq : p ≤ q) (hd : ∀ i, p ≤ i → i < q → isDi (L i) = true) : RO l yX1_numberOf wsX1_numberOf { frames := 1, cells := 0, slots := 0, locals := 21 } D (ty3 cI cJ cW) [.ref z, .int (nI p), .int (nI q)] [(z, .inr (1, [.ref t, .ref v, .ref th, .ref k, .int lg])), (th, .inr (4, [.ref tb, .int (nI n)])), (tb, .inl (cI, 80, .inl L))] (.int (nI (min (numN L p (q - p) 0) 30001))) := by
  refine ro_of (cc := cX1_numberOf) (maxL := 5) (ret := (some .int)) (by decide) rfl (Nat.le_of_ble_eq_true rfl) ?_
  intro pr en ss mi below meth cd X hP hK ls hl
  obtain ⟨hx, hb, hml, hown, hts, hr, hlocks⟩ := id X
  have fl_19 := hts (.fieldLink RX1 19 "WordTables$Cutter" "line" "LWordTables$Row;") (by decide +kernel)
  have in_X1 : ∀ w ∈ wsX10, w ∈ wsX1_numberOf := by decide +kernel
  have hl : lv_has ls 5 [(0, .ref z), (1, .int (nI p)), (2, .int (nI q))] := hl
  refine lv_iconst (v := 0) hx hb dX1_numberOf_0 (by decide) ?_
  refine lv_istore_n (lv' := [(3, _), (0, _), (1, _), (2, _)]) hx hb dX1_numberOf_1 rfl hl (by decide) rfl (fun ls hl => ?_)
  refine lv_iload_n hx hb dX1_numberOf_2 rfl (lv_at hl 2 rfl) ?_
  refine lv_istore (lv' := [(4, _), (3, _), (0, _), (1, _), (2, _)]) hx hb dX1_numberOf_3 hl (by decide) rfl (fun ls hl => ?_)
  have loop_5 : ∀ (fuel : Nat) (j w : Nat), q - j < fuel → p ≤ j → j ≤ q → numN L j (q - j) w = numN L p (q - p) 0 → ∀ ls : Array Slot, lv_has ls 5 [(0, .ref z), (1, .int (nI p)), (2, .int (nI q)), (3, .int (nI (min w 30001))), (4, .int (nI j))] → W pr l en { frames := 1, cells := 0, slots := 0, locals := 21 } ss mi ([.ref z, .int (nI p), .int (nI q)] : List Value).toArray below meth cd ss.heap [] 0 0 (MQ below (k2_QcV (.int (nI (min (numN L p (q - p) 0) 30001)))) ([.ref z, .int (nI p), .int (nI q)] : List Value).toArray ss 0 0 (fun _ => False)) (F0 mi 5 ls []) := by
    intro fuel
    induction fuel with
    | zero => intro j w hm; exact absurd hm (Nat.not_lt_zero _)
    | succ fuel ih =>
      intro j w hm hpj hj hr  ls hl
      refine lv_iload hx hb dX1_numberOf_5 (lv_at hl 4 rfl) ?_
      refine lv_iload_n hx hb dX1_numberOf_7 rfl (lv_at hl 2 rfl) ?_
      refine lv_icmp_ge (tgt := 41) hx hb dX1_numberOf_8 (by decide) (fun c_8 => ?_) (fun c_8 => ?_)
      · have hjq : j = q := eq_ge c_8 hj (by omega)
        refine lv_iload_n hx hb dX1_numberOf_41 rfl (lv_at hl 3 rfl) ?_
        exact ro_iret X (by rw [← hr, hjq, Nat.sub_self, numN]) dX1_numberOf_42
      · have hlt : j < q := lt_nge c_8 hj (by omega)
        obtain ⟨d, hd9, hLd, hdd⟩ := dg_of (hd j hpj hlt)
        refine lv_bipush (v := 10) hx hb dX1_numberOf_11 (by decide) ?_
        refine lv_iload_n hx hb dX1_numberOf_13 rfl (lv_at hl 3 rfl) ?_
        refine lv_imul hx hb dX1_numberOf_14 ?_
        refine lv_aload_n hx hb dX1_numberOf_15 rfl (lv_at hl 0 rfl) ?_
        refine va_get (D := D) (ci := 1) (C := RX1) (T := TX1) (N := 5) hx hb hts in_X1 hown hK hP 0 rfl rfl 2 (by decide) fl_19 (fun _ h9 => h9) rfl dX1_numberOf_16 ?_
        refine lv_iload hx hb dX1_numberOf_19 (lv_at hl 4 rfl) ?_
        refine ro_V (n := 1) X hK (c_X4_byteAt (by decide)) gX1_numberOf_X4_byteAt rfl (by decide +kernel) ⟨rfl, rfl⟩ ⟨Nat.le_of_ble_eq_true rfl, Nat.le_of_ble_eq_true rfl⟩ (hP.sub [1, 2] rfl) (va_recv hK hP (ci := 4) (q0 := 1) rfl rfl) rfl hl.1 rfl (Nat.le_of_ble_eq_true rfl) dX1_numberOf_21 ⟨Nat.zero_le _, Nat.zero_le _⟩ ?_
        rw [rowAt_lt (show j < n by omega) (by omega) (by omega) (by decide), hLd]
        refine lv_iadd hx hb dX1_numberOf_24 ?_
        refine lv_bipush (v := 48) hx hb dX1_numberOf_25 (by decide) ?_
        refine lv_isub hx hb dX1_numberOf_27 ?_
        refine lv_sipush (v := 30001) hx hb dX1_numberOf_28 (by decide) ?_
        refine va_mmin hx hb (hml.trans hl.1.symm) hown (hts (.methodLink RX1 126 Lib.Math.min.name) (by decide +kernel)) (hts (.static Lib.Math.min.name) (by decide +kernel)) (hts (.initialized "java/lang/Math") (by decide +kernel)) (hts (.code Lib.Math.min.name Lib.Math.min.code 2 (some .int)) (by decide +kernel)) (Nat.le_of_ble_eq_true rfl) (Nat.le_of_ble_eq_true rfl) (Nat.zero_le _) (Nat.zero_le _) dX1_numberOf_31 ?_
        rw [show (10 : Int32) * nI (min w 30001) + nI (48 + d) - 48 = nI (10 * min w 30001 + d) from by rw [show (10 : Int32) = nI 10 from rfl, pk_mul, nI_add, show (48 : Int32) = nI 48 from rfl, pk_sub (by omega)]; congr 1; omega, show (30001 : Int32) = nI 30001 from rfl, mn_nI (by omega) (by decide), show min (10 * min w 30001 + d) 30001 = min (10 * w + d) 30001 by omega]
        refine lv_istore_n (lv' := [(3, _), (0, _), (1, _), (2, _), (4, _)]) hx hb dX1_numberOf_34 rfl hl (by decide) rfl (fun ls hl => ?_)
        refine lv_iinc (v := (_ : Int32) + 1) (lv' := [(4, _), (3, _), (0, _), (1, _), (2, _)]) hx hb dX1_numberOf_35 hl (k := 4) rfl rfl (by decide) rfl (fun ls hl => ?_)
        refine lv_goto (tgt := 5) hx hb dX1_numberOf_38 (by decide) ?_
        rw [nI_1] at hl
        exact ih (j + 1) (10 * w + d) (by omega) (by omega) (by omega) (by rw [← hr, show q - j = (q - (j + 1)) + 1 by omega, numN, hdd])  _ (lv_sub hl [2, 3, 4, 1, 0] rfl)
  exact loop_5 (q + 1) p 0 (by omega) (Nat.le_refl _) hpq rfl  ls (lv_sub hl [2, 3, 4, 1, 0] rfl)
end
