-- ===== PART A: goes FIRST, ahead of the names: the tables' words, and 'selects' of the private methods out of them =====
/-- a private method of a class that the tables say can be made, by its rows of tables_1 -/
def lw_okq (q : MethodName × Nat) : Prop := (q.1.cls ≠ "java/lang/invoke/MethodHandle" ∧ q.1.cls ≠ "java/lang/invoke/VarHandle") ∧ Cond.instantiable q.1.cls q.2 ∈ tables_1 ∧ Cond.privateMethod q.1 ∈ tables_1 ∧ Cond.instanceMethod q.1 ∈ tables_1
theorem lw_p0 : lw_okq (⟨"FountainRows$Receiver", "startAnew", "()V"⟩, 11) := ⟨⟨by decide +kernel, by decide +kernel⟩, List.mem_of_getElem? (i := 134) (by decide +kernel), List.mem_of_getElem? (i := 184) (by decide +kernel), List.mem_of_getElem? (i := 185) (by decide +kernel)⟩
theorem lw_p1 : lw_okq (⟨"FountainRows$Span", "reduce", "(JJ)V"⟩, 5) := ⟨⟨by decide +kernel, by decide +kernel⟩, List.mem_of_getElem? (i := 140) (by decide +kernel), List.mem_of_getElem? (i := 204) (by decide +kernel), List.mem_of_getElem? (i := 205) (by decide +kernel)⟩
theorem lw_p2 : lw_okq (⟨"FountainRows$Span", "lowestOfRest", "()I"⟩, 5) := ⟨⟨by decide +kernel, by decide +kernel⟩, List.mem_of_getElem? (i := 140) (by decide +kernel), List.mem_of_getElem? (i := 209) (by decide +kernel), List.mem_of_getElem? (i := 210) (by decide +kernel)⟩
theorem lw_p3 : lw_okq (⟨"FountainRows", "sourceAt", "(I)LFountainRows$Source;"⟩, 7) := ⟨⟨by decide +kernel, by decide +kernel⟩, List.mem_of_getElem? (i := 12) (by decide +kernel), List.mem_of_getElem? (i := 254) (by decide +kernel), List.mem_of_getElem? (i := 255) (by decide +kernel)⟩
theorem lw_p4 : lw_okq (⟨"FountainRows$Source", "degreeFor", "(I)I"⟩, 9) := ⟨⟨by decide +kernel, by decide +kernel⟩, List.mem_of_getElem? (i := 80) (by decide +kernel), List.mem_of_getElem? (i := 283) (by decide +kernel), List.mem_of_getElem? (i := 284) (by decide +kernel)⟩
theorem lw_p5 : lw_okq (⟨"FountainRows$Source", "firstOutside", "(JI)I"⟩, 9) := ⟨⟨by decide +kernel, by decide +kernel⟩, List.mem_of_getElem? (i := 80) (by decide +kernel), List.mem_of_getElem? (i := 290) (by decide +kernel), List.mem_of_getElem? (i := 291) (by decide +kernel)⟩
theorem lw_p6 : lw_okq (⟨"FountainRows$Source", "valueOfSymbols", "(J)J"⟩, 9) := ⟨⟨by decide +kernel, by decide +kernel⟩, List.mem_of_getElem? (i := 80) (by decide +kernel), List.mem_of_getElem? (i := 314) (by decide +kernel), List.mem_of_getElem? (i := 315) (by decide +kernel)⟩
theorem lw_p7 : lw_okq (⟨"FountainRows", "receiverAt", "(I)LFountainRows$Receiver;"⟩, 7) := ⟨⟨by decide +kernel, by decide +kernel⟩, List.mem_of_getElem? (i := 12) (by decide +kernel), List.mem_of_getElem? (i := 372) (by decide +kernel), List.mem_of_getElem? (i := 373) (by decide +kernel)⟩
theorem lw_p8 : lw_okq (⟨"FountainRows$Receiver", "accept", "(LFountainRows$Bytes;I)I"⟩, 11) := ⟨⟨by decide +kernel, by decide +kernel⟩, List.mem_of_getElem? (i := 134) (by decide +kernel), List.mem_of_getElem? (i := 389) (by decide +kernel), List.mem_of_getElem? (i := 390) (by decide +kernel)⟩
theorem lw_p9 : lw_okq (⟨"FountainRows$Receiver", "hasTakenNumber", "(I)Z"⟩, 11) := ⟨⟨by decide +kernel, by decide +kernel⟩, List.mem_of_getElem? (i := 134) (by decide +kernel), List.mem_of_getElem? (i := 394) (by decide +kernel), List.mem_of_getElem? (i := 395) (by decide +kernel)⟩
theorem lw_p10 : lw_okq (⟨"FountainRows$Receiver", "freshPeeling", "()LFountainRows$Peeling;"⟩, 11) := ⟨⟨by decide +kernel, by decide +kernel⟩, List.mem_of_getElem? (i := 134) (by decide +kernel), List.mem_of_getElem? (i := 419) (by decide +kernel), List.mem_of_getElem? (i := 420) (by decide +kernel)⟩
theorem lw_p11 : lw_okq (⟨"FountainRows$Peeling", "onlyOpenPart", "([JI)J"⟩, 3) := ⟨⟨by decide +kernel, by decide +kernel⟩, List.mem_of_getElem? (i := 165) (by decide +kernel), List.mem_of_getElem? (i := 427) (by decide +kernel), List.mem_of_getElem? (i := 428) (by decide +kernel)⟩
theorem lw_p12 : lw_okq (⟨"FountainRows$Peeling", "mostSharedPart", "([JII)J"⟩, 3) := ⟨⟨by decide +kernel, by decide +kernel⟩, List.mem_of_getElem? (i := 165) (by decide +kernel), List.mem_of_getElem? (i := 437) (by decide +kernel), List.mem_of_getElem? (i := 438) (by decide +kernel)⟩
theorem lw_p13 : lw_okq (⟨"FountainRows$Receiver", "entryBytes", "()I"⟩, 11) := ⟨⟨by decide +kernel, by decide +kernel⟩, List.mem_of_getElem? (i := 134) (by decide +kernel), List.mem_of_getElem? (i := 508) (by decide +kernel), List.mem_of_getElem? (i := 509) (by decide +kernel)⟩
theorem lw_p14 : lw_okq (⟨"FountainRowsModel", "isSource", "(I)Z"⟩, 25) := ⟨⟨by decide +kernel, by decide +kernel⟩, List.mem_of_getElem? (i := 516) (by decide +kernel), List.mem_of_getElem? (i := 610) (by decide +kernel), List.mem_of_getElem? (i := 611) (by decide +kernel)⟩
theorem lw_p15 : lw_okq (⟨"FountainRowsModel", "lowest", "(IJ)J"⟩, 25) := ⟨⟨by decide +kernel, by decide +kernel⟩, List.mem_of_getElem? (i := 516) (by decide +kernel), List.mem_of_getElem? (i := 614) (by decide +kernel), List.mem_of_getElem? (i := 615) (by decide +kernel)⟩
def lw_privs_1 : List (MethodName × Nat) := [(⟨"FountainRows$Receiver", "startAnew", "()V"⟩, 11), (⟨"FountainRows$Span", "reduce", "(JJ)V"⟩, 5), (⟨"FountainRows$Span", "lowestOfRest", "()I"⟩, 5), (⟨"FountainRows", "sourceAt", "(I)LFountainRows$Source;"⟩, 7), (⟨"FountainRows$Source", "degreeFor", "(I)I"⟩, 9), (⟨"FountainRows$Source", "firstOutside", "(JI)I"⟩, 9), (⟨"FountainRows$Source", "valueOfSymbols", "(J)J"⟩, 9), (⟨"FountainRows", "receiverAt", "(I)LFountainRows$Receiver;"⟩, 7), (⟨"FountainRows$Receiver", "accept", "(LFountainRows$Bytes;I)I"⟩, 11), (⟨"FountainRows$Receiver", "hasTakenNumber", "(I)Z"⟩, 11), (⟨"FountainRows$Receiver", "freshPeeling", "()LFountainRows$Peeling;"⟩, 11), (⟨"FountainRows$Peeling", "onlyOpenPart", "([JI)J"⟩, 3), (⟨"FountainRows$Peeling", "mostSharedPart", "([JII)J"⟩, 3), (⟨"FountainRows$Receiver", "entryBytes", "()I"⟩, 11), (⟨"FountainRowsModel", "isSource", "(I)Z"⟩, 25), (⟨"FountainRowsModel", "lowest", "(IJ)J"⟩, 25)]
theorem lw_r1 : ∀ q ∈ lw_privs_1, lw_okq q := List.forall_mem_cons.mpr ⟨lw_p0, List.forall_mem_cons.mpr ⟨lw_p1, List.forall_mem_cons.mpr ⟨lw_p2, List.forall_mem_cons.mpr ⟨lw_p3, List.forall_mem_cons.mpr ⟨lw_p4, List.forall_mem_cons.mpr ⟨lw_p5, List.forall_mem_cons.mpr ⟨lw_p6, List.forall_mem_cons.mpr ⟨lw_p7, List.forall_mem_cons.mpr ⟨lw_p8, List.forall_mem_cons.mpr ⟨lw_p9, List.forall_mem_cons.mpr ⟨lw_p10, List.forall_mem_cons.mpr ⟨lw_p11, List.forall_mem_cons.mpr ⟨lw_p12, List.forall_mem_cons.mpr ⟨lw_p13, List.forall_mem_cons.mpr ⟨lw_p14, List.forall_mem_cons.mpr ⟨lw_p15, fun _ h => absurd h List.not_mem_nil⟩⟩⟩⟩⟩⟩⟩⟩⟩⟩⟩⟩⟩⟩⟩⟩
theorem lw_p16 : lw_okq (⟨"FountainRowsModel", "rowOf", "(II)J"⟩, 25) := ⟨⟨by decide +kernel, by decide +kernel⟩, List.mem_of_getElem? (i := 516) (by decide +kernel), List.mem_of_getElem? (i := 625) (by decide +kernel), List.mem_of_getElem? (i := 626) (by decide +kernel)⟩
theorem lw_p17 : lw_okq (⟨"FountainRowsModel", "drawn", "()I"⟩, 25) := ⟨⟨by decide +kernel, by decide +kernel⟩, List.mem_of_getElem? (i := 516) (by decide +kernel), List.mem_of_getElem? (i := 630) (by decide +kernel), List.mem_of_getElem? (i := 631) (by decide +kernel)⟩
theorem lw_p18 : lw_okq (⟨"FountainRowsModel", "parts", "(I)I"⟩, 25) := ⟨⟨by decide +kernel, by decide +kernel⟩, List.mem_of_getElem? (i := 516) (by decide +kernel), List.mem_of_getElem? (i := 636) (by decide +kernel), List.mem_of_getElem? (i := 637) (by decide +kernel)⟩
theorem lw_p19 : lw_okq (⟨"FountainRowsModel", "sumOf", "(II)J"⟩, 25) := ⟨⟨by decide +kernel, by decide +kernel⟩, List.mem_of_getElem? (i := 516) (by decide +kernel), List.mem_of_getElem? (i := 644) (by decide +kernel), List.mem_of_getElem? (i := 645) (by decide +kernel)⟩
theorem lw_p20 : lw_okq (⟨"FountainRowsModel", "isPart", "(II)Z"⟩, 25) := ⟨⟨by decide +kernel, by decide +kernel⟩, List.mem_of_getElem? (i := 516) (by decide +kernel), List.mem_of_getElem? (i := 652) (by decide +kernel), List.mem_of_getElem? (i := 653) (by decide +kernel)⟩
theorem lw_p21 : lw_okq (⟨"FountainRowsModel", "partOf", "(II)J"⟩, 25) := ⟨⟨by decide +kernel, by decide +kernel⟩, List.mem_of_getElem? (i := 516) (by decide +kernel), List.mem_of_getElem? (i := 656) (by decide +kernel), List.mem_of_getElem? (i := 657) (by decide +kernel)⟩
theorem lw_p22 : lw_okq (⟨"FountainRowsModel", "all", "(IJ)J"⟩, 25) := ⟨⟨by decide +kernel, by decide +kernel⟩, List.mem_of_getElem? (i := 516) (by decide +kernel), List.mem_of_getElem? (i := 660) (by decide +kernel), List.mem_of_getElem? (i := 661) (by decide +kernel)⟩
theorem lw_p23 : lw_okq (⟨"FountainRowsModel", "output", "(II)J"⟩, 25) := ⟨⟨by decide +kernel, by decide +kernel⟩, List.mem_of_getElem? (i := 516) (by decide +kernel), List.mem_of_getElem? (i := 668) (by decide +kernel), List.mem_of_getElem? (i := 669) (by decide +kernel)⟩
theorem lw_p24 : lw_okq (⟨"FountainRowsModel", "sum", "([II)I"⟩, 25) := ⟨⟨by decide +kernel, by decide +kernel⟩, List.mem_of_getElem? (i := 516) (by decide +kernel), List.mem_of_getElem? (i := 676) (by decide +kernel), List.mem_of_getElem? (i := 677) (by decide +kernel)⟩
theorem lw_p25 : lw_okq (⟨"FountainRowsModel", "wasTaken", "(II)Z"⟩, 25) := ⟨⟨by decide +kernel, by decide +kernel⟩, List.mem_of_getElem? (i := 516) (by decide +kernel), List.mem_of_getElem? (i := 693) (by decide +kernel), List.mem_of_getElem? (i := 694) (by decide +kernel)⟩
theorem lw_p26 : lw_okq (⟨"FountainRowsModel", "isContrary", "(IIJ)Z"⟩, 25) := ⟨⟨by decide +kernel, by decide +kernel⟩, List.mem_of_getElem? (i := 516) (by decide +kernel), List.mem_of_getElem? (i := 697) (by decide +kernel), List.mem_of_getElem? (i := 698) (by decide +kernel)⟩
theorem lw_p27 : lw_okq (⟨"FountainRowsModel", "build", "(I)V"⟩, 25) := ⟨⟨by decide +kernel, by decide +kernel⟩, List.mem_of_getElem? (i := 516) (by decide +kernel), List.mem_of_getElem? (i := 701) (by decide +kernel), List.mem_of_getElem? (i := 702) (by decide +kernel)⟩
theorem lw_p28 : lw_okq (⟨"FountainRowsModel", "rowAt", "(II)J"⟩, 25) := ⟨⟨by decide +kernel, by decide +kernel⟩, List.mem_of_getElem? (i := 516) (by decide +kernel), List.mem_of_getElem? (i := 705) (by decide +kernel), List.mem_of_getElem? (i := 706) (by decide +kernel)⟩
theorem lw_p29 : lw_okq (⟨"FountainRowsModel", "add", "(JJ)V"⟩, 25) := ⟨⟨by decide +kernel, by decide +kernel⟩, List.mem_of_getElem? (i := 516) (by decide +kernel), List.mem_of_getElem? (i := 709) (by decide +kernel), List.mem_of_getElem? (i := 710) (by decide +kernel)⟩
theorem lw_p30 : lw_okq (⟨"FountainRowsModel", "reduce", "(JJ)V"⟩, 25) := ⟨⟨by decide +kernel, by decide +kernel⟩, List.mem_of_getElem? (i := 516) (by decide +kernel), List.mem_of_getElem? (i := 713) (by decide +kernel), List.mem_of_getElem? (i := 714) (by decide +kernel)⟩
theorem lw_p31 : lw_okq (⟨"FountainRowsModel", "keep", "(IIJ)V"⟩, 25) := ⟨⟨by decide +kernel, by decide +kernel⟩, List.mem_of_getElem? (i := 516) (by decide +kernel), List.mem_of_getElem? (i := 717) (by decide +kernel), List.mem_of_getElem? (i := 718) (by decide +kernel)⟩
def lw_privs_2 : List (MethodName × Nat) := [(⟨"FountainRowsModel", "rowOf", "(II)J"⟩, 25), (⟨"FountainRowsModel", "drawn", "()I"⟩, 25), (⟨"FountainRowsModel", "parts", "(I)I"⟩, 25), (⟨"FountainRowsModel", "sumOf", "(II)J"⟩, 25), (⟨"FountainRowsModel", "isPart", "(II)Z"⟩, 25), (⟨"FountainRowsModel", "partOf", "(II)J"⟩, 25), (⟨"FountainRowsModel", "all", "(IJ)J"⟩, 25), (⟨"FountainRowsModel", "output", "(II)J"⟩, 25), (⟨"FountainRowsModel", "sum", "([II)I"⟩, 25), (⟨"FountainRowsModel", "wasTaken", "(II)Z"⟩, 25), (⟨"FountainRowsModel", "isContrary", "(IIJ)Z"⟩, 25), (⟨"FountainRowsModel", "build", "(I)V"⟩, 25), (⟨"FountainRowsModel", "rowAt", "(II)J"⟩, 25), (⟨"FountainRowsModel", "add", "(JJ)V"⟩, 25), (⟨"FountainRowsModel", "reduce", "(JJ)V"⟩, 25), (⟨"FountainRowsModel", "keep", "(IIJ)V"⟩, 25)]
theorem lw_r2 : ∀ q ∈ lw_privs_2, lw_okq q := List.forall_mem_cons.mpr ⟨lw_p16, List.forall_mem_cons.mpr ⟨lw_p17, List.forall_mem_cons.mpr ⟨lw_p18, List.forall_mem_cons.mpr ⟨lw_p19, List.forall_mem_cons.mpr ⟨lw_p20, List.forall_mem_cons.mpr ⟨lw_p21, List.forall_mem_cons.mpr ⟨lw_p22, List.forall_mem_cons.mpr ⟨lw_p23, List.forall_mem_cons.mpr ⟨lw_p24, List.forall_mem_cons.mpr ⟨lw_p25, List.forall_mem_cons.mpr ⟨lw_p26, List.forall_mem_cons.mpr ⟨lw_p27, List.forall_mem_cons.mpr ⟨lw_p28, List.forall_mem_cons.mpr ⟨lw_p29, List.forall_mem_cons.mpr ⟨lw_p30, List.forall_mem_cons.mpr ⟨lw_p31, fun _ h => absurd h List.not_mem_nil⟩⟩⟩⟩⟩⟩⟩⟩⟩⟩⟩⟩⟩⟩⟩⟩
theorem lw_p32 : lw_okq (⟨"FountainRowsModel", "knows", "(I)Z"⟩, 25) := ⟨⟨by decide +kernel, by decide +kernel⟩, List.mem_of_getElem? (i := 516) (by decide +kernel), List.mem_of_getElem? (i := 725) (by decide +kernel), List.mem_of_getElem? (i := 726) (by decide +kernel)⟩
theorem lw_p33 : lw_okq (⟨"FountainRowsModel", "states", "(II)I"⟩, 25) := ⟨⟨by decide +kernel, by decide +kernel⟩, List.mem_of_getElem? (i := 516) (by decide +kernel), List.mem_of_getElem? (i := 729) (by decide +kernel), List.mem_of_getElem? (i := 730) (by decide +kernel)⟩
theorem lw_p34 : lw_okq (⟨"FountainRowsModel", "peel", "(I)V"⟩, 25) := ⟨⟨by decide +kernel, by decide +kernel⟩, List.mem_of_getElem? (i := 516) (by decide +kernel), List.mem_of_getElem? (i := 733) (by decide +kernel), List.mem_of_getElem? (i := 734) (by decide +kernel)⟩
theorem lw_p35 : lw_okq (⟨"FountainRowsModel", "most", "(IIJ)I"⟩, 25) := ⟨⟨by decide +kernel, by decide +kernel⟩, List.mem_of_getElem? (i := 516) (by decide +kernel), List.mem_of_getElem? (i := 740) (by decide +kernel), List.mem_of_getElem? (i := 741) (by decide +kernel)⟩
theorem lw_p36 : lw_okq (⟨"FountainRowsModel", "say", "(JI)V"⟩, 25) := ⟨⟨by decide +kernel, by decide +kernel⟩, List.mem_of_getElem? (i := 516) (by decide +kernel), List.mem_of_getElem? (i := 764) (by decide +kernel), List.mem_of_getElem? (i := 765) (by decide +kernel)⟩
theorem lw_p37 : lw_okq (⟨"FountainRowsModel", "number", "(II)J"⟩, 25) := ⟨⟨by decide +kernel, by decide +kernel⟩, List.mem_of_getElem? (i := 516) (by decide +kernel), List.mem_of_getElem? (i := 784) (by decide +kernel), List.mem_of_getElem? (i := 785) (by decide +kernel)⟩
def lw_privs_3 : List (MethodName × Nat) := [(⟨"FountainRowsModel", "knows", "(I)Z"⟩, 25), (⟨"FountainRowsModel", "states", "(II)I"⟩, 25), (⟨"FountainRowsModel", "peel", "(I)V"⟩, 25), (⟨"FountainRowsModel", "most", "(IIJ)I"⟩, 25), (⟨"FountainRowsModel", "say", "(JI)V"⟩, 25), (⟨"FountainRowsModel", "number", "(II)J"⟩, 25)]
theorem lw_r3 : ∀ q ∈ lw_privs_3, lw_okq q := List.forall_mem_cons.mpr ⟨lw_p32, List.forall_mem_cons.mpr ⟨lw_p33, List.forall_mem_cons.mpr ⟨lw_p34, List.forall_mem_cons.mpr ⟨lw_p35, List.forall_mem_cons.mpr ⟨lw_p36, List.forall_mem_cons.mpr ⟨lw_p37, fun _ h => absurd h List.not_mem_nil⟩⟩⟩⟩⟩⟩
def lw_privs : List (MethodName × Nat) := lw_privs_1 ++ (lw_privs_2 ++ (lw_privs_3))
def lw_tbl : List Cond := k2_sels lw_privs ++ tables_1
theorem lw_privs_ok : ∀ q ∈ lw_privs, lw_okq q := by
  show ∀ q ∈ lw_privs_1 ++ (lw_privs_2 ++ (lw_privs_3)), lw_okq q
  exact List.forall_mem_append.mpr ⟨lw_r1, List.forall_mem_append.mpr ⟨lw_r2, lw_r3⟩⟩

def TB : List Cond := lw_tbl.filter goodWord
theorem tb_of {w : Cond} (h : w ∈ lw_tbl) (g : goodWord w = true) : w ∈ TB := List.mem_filter.mpr ⟨h, g⟩
theorem tb_good : ∀ w ∈ TB, (w.onTables && w.keeps) = true ∨ ∃ ty, w = .arrayClass ty := fun w h => good_of_word (List.mem_filter.mp h).2
theorem tb_in : ∀ w ∈ TB, w ∈ lw_tbl := fun w h => (List.mem_filter.mp h).1
theorem kg_I {y : MethodName} {b : ByteArray} {n : Nat} {r : Option FieldType} (h5 : Cond.code y b n r ∈ TB) : GoodIn TB (Cond.code y b n r :: TB) := fun w h => by
  rcases List.mem_cons.mp h with e | e
  · rw [e]; exact ⟨h5, tb_good _ h5⟩
  · exact ⟨e, tb_good _ e⟩
theorem kg_V {own C : String} {idx : Nat} {y : MethodName} {b : ByteArray} {n : Nat} {r : Option FieldType} (h1 : Cond.methodLink own idx y ∈ TB) (h2 : Cond.instanceMethod y ∈ TB) (h3 : Cond.selects C y y ∈ TB) (h4 : Cond.initialized C ∈ TB) (h5 : Cond.code y b n r ∈ TB) : GoodIn TB (wsV own idx C y (Cond.code y b n r :: TB)) := fun w h => by
  rcases List.mem_append.mp h with e | e
  · have hm : w ∈ TB := by
      rcases List.mem_cons.mp e with e | e
      · rw [e]; exact h1
      · rcases List.mem_cons.mp e with e | e
        · rw [e]; exact h2
        · rcases List.mem_cons.mp e with e | e
          · rw [e]; exact h3
          · rw [List.mem_singleton.mp e]; exact h4
    exact ⟨hm, tb_good _ hm⟩
  · exact kg_I h5 w e
theorem kg_S {own : String} {idx : Nat} {y : MethodName} {b : ByteArray} {n : Nat} {r : Option FieldType} (h1 : Cond.methodLink own idx y ∈ TB) (h2 : Cond.static y ∈ TB) (h4 : Cond.initialized y.cls ∈ TB) (h5 : Cond.code y b n r ∈ TB) : GoodIn TB (va_wsS own idx y (Cond.code y b n r :: TB)) := fun w h => by
  rcases List.mem_append.mp h with e | e
  · have hm : w ∈ TB := by
      rcases List.mem_cons.mp e with e | e
      · rw [e]; exact h1
      · rcases List.mem_cons.mp e with e | e
        · rw [e]; exact h2
        · rw [List.mem_singleton.mp e]; exact h4
    exact ⟨hm, tb_good _ hm⟩
  · exact kg_I h5 w e

def RX0 : String := "FountainRows$Bytes"
def TX0 : u_T := fun k => match k with
  | 0 => ("FountainRows$Bytes", "cells", "[I", true)
  | _ => ("FountainRows$Bytes", "length", "I", false)
def tyX0 : Nat → FieldType := fun k => match k with
  | 0 => .array .int
  | _ => .int
theorem nmX0 : ∀ a, a < 2 → ∀ b, b < 2 → a ≠ b → (TX0 a).2.1 ≠ (TX0 b).2.1 := by decide +kernel
theorem tyX0_ok : ∀ k, k < 2 → parseFieldDescriptor (TX0 k).2.2.1 = some (tyX0 k) := by decide +kernel
set_option maxRecDepth 100000 in
theorem inX0 : ∀ w ∈ u_ws RX0 TX0 2, w ∈ TB := fun w h => tb_of ((by decide +kernel : ∀ w ∈ u_ws RX0 TX0 2, w ∈ lw_tbl) w h) ((by decide +kernel : ∀ w ∈ u_ws RX0 TX0 2, goodWord w = true) w h)
def RX1 : String := "FountainRows$Peeling"
def TX1 : u_T := fun k => match k with
  | 0 => ("FountainRows$Peeling", "open", "J", false)
  | 1 => ("FountainRows$Peeling", "found", "J", false)
  | _ => ("FountainRows$Peeling", "inactive", "J", false)
def tyX1 : Nat → FieldType := fun k => match k with
  | 0 => .long
  | 1 => .long
  | _ => .long
theorem nmX1 : ∀ a, a < 3 → ∀ b, b < 3 → a ≠ b → (TX1 a).2.1 ≠ (TX1 b).2.1 := by decide +kernel
theorem tyX1_ok : ∀ k, k < 3 → parseFieldDescriptor (TX1 k).2.2.1 = some (tyX1 k) := by decide +kernel
set_option maxRecDepth 100000 in
theorem inX1 : ∀ w ∈ u_ws RX1 TX1 3, w ∈ TB := fun w h => tb_of ((by decide +kernel : ∀ w ∈ u_ws RX1 TX1 3, w ∈ lw_tbl) w h) ((by decide +kernel : ∀ w ∈ u_ws RX1 TX1 3, goodWord w = true) w h)
def RX2 : String := "FountainRows$Receiver"
def TX2 : u_T := fun k => match k with
  | 0 => ("FountainRows$Receiver", "origin", "LFountainRows$Source;", true)
  | 1 => ("FountainRows$Receiver", "span", "LFountainRows$Span;", true)
  | 2 => ("FountainRows$Receiver", "peeling", "LFountainRows$Peeling;", true)
  | 3 => ("FountainRows$Receiver", "peelingIsOld", "Z", false)
  | 4 => ("FountainRows$Receiver", "numbers", "[I", true)
  | 5 => ("FountainRows$Receiver", "outputs", "[J", true)
  | 6 => ("FountainRows$Receiver", "rows", "[J", true)
  | 7 => ("FountainRows$Receiver", "takenCount", "I", false)
  | 8 => ("FountainRows$Receiver", "wrongCount", "I", false)
  | 9 => ("FountainRows$Receiver", "twiceCount", "I", false)
  | _ => ("FountainRows$Receiver", "contraryCount", "I", false)
def tyX2 : Nat → FieldType := fun k => match k with
  | 0 => .object "FountainRows$Source"
  | 1 => .object "FountainRows$Span"
  | 2 => .object "FountainRows$Peeling"
  | 3 => .boolean
  | 4 => .array .int
  | 5 => .array .long
  | 6 => .array .long
  | 7 => .int
  | 8 => .int
  | 9 => .int
  | _ => .int
theorem nmX2 : ∀ a, a < 11 → ∀ b, b < 11 → a ≠ b → (TX2 a).2.1 ≠ (TX2 b).2.1 := by decide +kernel
theorem tyX2_ok : ∀ k, k < 11 → parseFieldDescriptor (TX2 k).2.2.1 = some (tyX2 k) := by decide +kernel
set_option maxRecDepth 100000 in
theorem inX2 : ∀ w ∈ u_ws RX2 TX2 11, w ∈ TB := fun w h => tb_of ((by decide +kernel : ∀ w ∈ u_ws RX2 TX2 11, w ∈ lw_tbl) w h) ((by decide +kernel : ∀ w ∈ u_ws RX2 TX2 11, goodWord w = true) w h)
def RX3 : String := "FountainRows$Source"
def TX3 : u_T := fun k => match k with
  | 0 => ("FountainRows$Source", "symbolCount", "I", true)
  | 1 => ("FountainRows$Source", "sumCount", "I", true)
  | 2 => ("FountainRows$Source", "partCount", "I", true)
  | 3 => ("FountainRows$Source", "size", "I", true)
  | 4 => ("FountainRows$Source", "seed", "I", true)
  | 5 => ("FountainRows$Source", "ownWeights", "[I", true)
  | 6 => ("FountainRows$Source", "totalWeight", "I", true)
  | 7 => ("FountainRows$Source", "sumSymbols", "[J", true)
  | _ => ("FountainRows$Source", "symbols", "[J", true)
def tyX3 : Nat → FieldType := fun k => match k with
  | 0 => .int
  | 1 => .int
  | 2 => .int
  | 3 => .int
  | 4 => .int
  | 5 => .array .int
  | 6 => .int
  | 7 => .array .long
  | _ => .array .long
theorem nmX3 : ∀ a, a < 9 → ∀ b, b < 9 → a ≠ b → (TX3 a).2.1 ≠ (TX3 b).2.1 := by decide +kernel
theorem tyX3_ok : ∀ k, k < 9 → parseFieldDescriptor (TX3 k).2.2.1 = some (tyX3 k) := by decide +kernel
set_option maxRecDepth 100000 in
theorem inX3 : ∀ w ∈ u_ws RX3 TX3 9, w ∈ TB := fun w h => tb_of ((by decide +kernel : ∀ w ∈ u_ws RX3 TX3 9, w ∈ lw_tbl) w h) ((by decide +kernel : ∀ w ∈ u_ws RX3 TX3 9, goodWord w = true) w h)
def RX4 : String := "FountainRows$Span"
def TX4 : u_T := fun k => match k with
  | 0 => ("FountainRows$Span", "rows", "[J", true)
  | 1 => ("FountainRows$Span", "values", "[J", true)
  | 2 => ("FountainRows$Span", "rank", "I", false)
  | 3 => ("FountainRows$Span", "restRow", "J", false)
  | _ => ("FountainRows$Span", "restValue", "J", false)
def tyX4 : Nat → FieldType := fun k => match k with
  | 0 => .array .long
  | 1 => .array .long
  | 2 => .int
  | 3 => .long
  | _ => .long
theorem nmX4 : ∀ a, a < 5 → ∀ b, b < 5 → a ≠ b → (TX4 a).2.1 ≠ (TX4 b).2.1 := by decide +kernel
theorem tyX4_ok : ∀ k, k < 5 → parseFieldDescriptor (TX4 k).2.2.1 = some (tyX4 k) := by decide +kernel
set_option maxRecDepth 100000 in
theorem inX4 : ∀ w ∈ u_ws RX4 TX4 5, w ∈ TB := fun w h => tb_of ((by decide +kernel : ∀ w ∈ u_ws RX4 TX4 5, w ∈ lw_tbl) w h) ((by decide +kernel : ∀ w ∈ u_ws RX4 TX4 5, goodWord w = true) w h)
def RX5 : String := "FountainRows"
def TX5 : u_T := fun k => match k with
  | 0 => ("FountainRows", "weights", "[I", true)
  | 1 => ("FountainRows", "sources", "[LFountainRows$Source;", true)
  | 2 => ("FountainRows", "receivers", "[LFountainRows$Receiver;", true)
  | 3 => ("FountainRows", "sourceCount", "I", false)
  | 4 => ("FountainRows", "frameBytes", "LFountainRows$Bytes;", true)
  | 5 => ("FountainRows", "frameSource", "I", false)
  | _ => ("FountainRows", "imageBytes", "LFountainRows$Bytes;", true)
def tyX5 : Nat → FieldType := fun k => match k with
  | 0 => .array .int
  | 1 => .array (.object "FountainRows$Source")
  | 2 => .array (.object "FountainRows$Receiver")
  | 3 => .int
  | 4 => .object "FountainRows$Bytes"
  | 5 => .int
  | _ => .object "FountainRows$Bytes"
theorem nmX5 : ∀ a, a < 7 → ∀ b, b < 7 → a ≠ b → (TX5 a).2.1 ≠ (TX5 b).2.1 := by decide +kernel
theorem tyX5_ok : ∀ k, k < 7 → parseFieldDescriptor (TX5 k).2.2.1 = some (tyX5 k) := by decide +kernel
set_option maxRecDepth 100000 in
theorem inX5 : ∀ w ∈ u_ws RX5 TX5 7, w ∈ TB := fun w h => tb_of ((by decide +kernel : ∀ w ∈ u_ws RX5 TX5 7, w ∈ lw_tbl) w h) ((by decide +kernel : ∀ w ∈ u_ws RX5 TX5 7, goodWord w = true) w h)
def RX6 : String := "FountainRowsModel"
def TX6 : u_T := fun k => match k with
  | 0 => ("FountainRowsModel", "weights", "[I", true)
  | 1 => ("FountainRowsModel", "sources", "I", false)
  | 2 => ("FountainRowsModel", "ks", "[I", true)
  | 3 => ("FountainRowsModel", "ps", "[I", true)
  | 4 => ("FountainRowsModel", "sizes", "[I", true)
  | 5 => ("FountainRowsModel", "seeds", "[I", true)
  | 6 => ("FountainRowsModel", "tables", "[I", true)
  | 7 => ("FountainRowsModel", "symbols", "[J", true)
  | 8 => ("FountainRowsModel", "xs", "[I", true)
  | 9 => ("FountainRowsModel", "outs", "[J", true)
  | 10 => ("FountainRowsModel", "taken", "[I", true)
  | 11 => ("FountainRowsModel", "wrong", "[I", true)
  | 12 => ("FountainRowsModel", "hasFrame", "Z", false)
  | 13 => ("FountainRowsModel", "frameOf", "I", false)
  | 14 => ("FountainRowsModel", "frame", "[I", true)
  | 15 => ("FountainRowsModel", "frameSize", "I", false)
  | 16 => ("FountainRowsModel", "image", "[I", true)
  | 17 => ("FountainRowsModel", "imageSize", "I", false)
  | 18 => ("FountainRowsModel", "z", "I", false)
  | 19 => ("FountainRowsModel", "heads", "[J", true)
  | 20 => ("FountainRowsModel", "values", "[J", true)
  | 21 => ("FountainRowsModel", "rank", "I", false)
  | 22 => ("FountainRowsModel", "left", "J", false)
  | 23 => ("FountainRowsModel", "leftOut", "J", false)
  | _ => ("FountainRowsModel", "states", "[I", true)
def tyX6 : Nat → FieldType := fun k => match k with
  | 0 => .array .int
  | 1 => .int
  | 2 => .array .int
  | 3 => .array .int
  | 4 => .array .int
  | 5 => .array .int
  | 6 => .array .int
  | 7 => .array .long
  | 8 => .array .int
  | 9 => .array .long
  | 10 => .array .int
  | 11 => .array .int
  | 12 => .boolean
  | 13 => .int
  | 14 => .array .int
  | 15 => .int
  | 16 => .array .int
  | 17 => .int
  | 18 => .int
  | 19 => .array .long
  | 20 => .array .long
  | 21 => .int
  | 22 => .long
  | 23 => .long
  | _ => .array .int
theorem nmX6 : ∀ a, a < 25 → ∀ b, b < 25 → a ≠ b → (TX6 a).2.1 ≠ (TX6 b).2.1 := by decide +kernel
theorem tyX6_ok : ∀ k, k < 25 → parseFieldDescriptor (TX6 k).2.2.1 = some (tyX6 k) := by decide +kernel
set_option maxRecDepth 100000 in
theorem inX6 : ∀ w ∈ u_ws RX6 TX6 25, w ∈ TB := fun w h => tb_of ((by decide +kernel : ∀ w ∈ u_ws RX6 TX6 25, w ∈ lw_tbl) w h) ((by decide +kernel : ∀ w ∈ u_ws RX6 TX6 25, goodWord w = true) w h)
def RXJ : String := "java/lang/Long"
def RL : String := "FountainRowsLaw"
abbrev cX5_init : ByteArray := prog_1_method_1_code
def yX5_init : MethodName := ⟨RX5, "<init>", "()V"⟩
abbrev kw_X5_init : List Cond := .code yX5_init cX5_init 1 none :: TB
abbrev cX0_init : ByteArray := prog_2_method_1_code
def yX0_init : MethodName := ⟨RX0, "<init>", "(I)V"⟩
abbrev kw_X0_init : List Cond := .code yX0_init cX0_init 2 none :: TB
abbrev cX5_degree : ByteArray := prog_1_method_2_code
def yX5_degree : MethodName := ⟨RX5, "degree", "(II)I"⟩
abbrev kw_X5_degree : List Cond := .code yX5_degree cX5_degree 4 (some .int) :: TB
abbrev cX5_source : ByteArray := prog_1_method_3_code
def yX5_source : MethodName := ⟨RX5, "source", "(IIII)I"⟩
abbrev kw_X5_source : List Cond := .code yX5_source cX5_source 6 (some .int) :: TB
abbrev cX5_totalOf : ByteArray := prog_1_method_26_code
def yX5_totalOf : MethodName := ⟨RX5, "totalOf", "([I)I"⟩
abbrev kw_X5_totalOf : List Cond := .code yX5_totalOf cX5_totalOf 6 (some .int) :: TB
abbrev cX3_init : ByteArray := prog_5_method_1_code
def yX3_init : MethodName := ⟨RX3, "<init>", "(IIII[I)V"⟩
abbrev kw_X3_init : List Cond := .code yX3_init cX3_init 7 none :: TB
abbrev cX3_drawSymbols : ByteArray := prog_5_method_2_code
def yX3_drawSymbols : MethodName := ⟨RX3, "drawSymbols", "(II)J"⟩
abbrev kw_X3_drawSymbols : List Cond := .code yX3_drawSymbols cX3_drawSymbols 6 (some .long) :: TB
abbrev cX5_nextState : ByteArray := prog_1_method_28_code
def yX5_nextState : MethodName := ⟨RX5, "nextState", "(I)I"⟩
abbrev kw_X5_nextState : List Cond := .code yX5_nextState cX5_nextState 1 (some .int) :: TB
abbrev cX5_hasBit : ByteArray := prog_1_method_27_code
def yX5_hasBit : MethodName := ⟨RX5, "hasBit", "(JI)Z"⟩
abbrev kw_X5_hasBit : List Cond := .code yX5_hasBit cX5_hasBit 3 (some .boolean) :: TB
abbrev cX2_init : ByteArray := prog_4_method_1_code
def yX2_init : MethodName := ⟨RX2, "<init>", "(LFountainRows$Source;)V"⟩
abbrev kw_X2_init : List Cond := .code yX2_init cX2_init 2 none :: TB
abbrev cX4_init : ByteArray := prog_6_method_1_code
def yX4_init : MethodName := ⟨RX4, "<init>", "()V"⟩
abbrev kw_X4_init : List Cond := .code yX4_init cX4_init 1 none :: TB
abbrev cX1_init : ByteArray := prog_3_method_1_code
def yX1_init : MethodName := ⟨RX1, "<init>", "()V"⟩
abbrev kw_X1_init : List Cond := .code yX1_init cX1_init 1 none :: TB
abbrev cX2_startAnew : ByteArray := prog_4_method_2_code
def yX2_startAnew : MethodName := ⟨RX2, "startAnew", "()V"⟩
abbrev kw_X2_startAnew : List Cond := .code yX2_startAnew cX2_startAnew 2 none :: TB
abbrev cX4_clear : ByteArray := prog_6_method_2_code
def yX4_clear : MethodName := ⟨RX4, "clear", "()V"⟩
abbrev kw_X4_clear : List Cond := .code yX4_clear cX4_clear 2 none :: TB
abbrev cX3_symbolsOfSum : ByteArray := prog_5_method_7_code
def yX3_symbolsOfSum : MethodName := ⟨RX3, "symbolsOfSum", "(I)J"⟩
abbrev kw_X3_symbolsOfSum : List Cond := .code yX3_symbolsOfSum cX3_symbolsOfSum 2 (some .long) :: TB
abbrev cX3_hasSum : ByteArray := prog_5_method_4_code
def yX3_hasSum : MethodName := ⟨RX3, "hasSum", "(I)Z"⟩
abbrev kw_X3_hasSum : List Cond := .code yX3_hasSum cX3_hasSum 2 (some .boolean) :: TB
abbrev cX4_add : ByteArray := prog_6_method_4_code
def yX4_add : MethodName := ⟨RX4, "add", "(JJ)V"⟩
abbrev kw_X4_add : List Cond := .code yX4_add cX4_add 7 none :: TB
abbrev cX4_reduce : ByteArray := prog_6_method_7_code
def yX4_reduce : MethodName := ⟨RX4, "reduce", "(JJ)V"⟩
abbrev kw_X4_reduce : List Cond := .code yX4_reduce cX4_reduce 6 none :: TB
abbrev cX4_lowestOfRest : ByteArray := prog_6_method_8_code
def yX4_lowestOfRest : MethodName := ⟨RX4, "lowestOfRest", "()I"⟩
abbrev kw_X4_lowestOfRest : List Cond := .code yX4_lowestOfRest cX4_lowestOfRest 2 (some .int) :: TB
abbrev cX5_symbol : ByteArray := prog_1_method_4_code
def yX5_symbol : MethodName := ⟨RX5, "symbol", "(IIJ)I"⟩
abbrev kw_X5_symbol : List Cond := .code yX5_symbol cX5_symbol 6 (some .int) :: TB
abbrev cX5_sourceAt : ByteArray := prog_1_method_23_code
def yX5_sourceAt : MethodName := ⟨RX5, "sourceAt", "(I)LFountainRows$Source;"⟩
abbrev kw_X5_sourceAt : List Cond := .code yX5_sourceAt cX5_sourceAt 2 (some (.object "FountainRows$Source")) :: TB
abbrev cX3_hasSymbol : ByteArray := prog_5_method_3_code
def yX3_hasSymbol : MethodName := ⟨RX3, "hasSymbol", "(I)Z"⟩
abbrev kw_X3_hasSymbol : List Cond := .code yX3_hasSymbol cX3_hasSymbol 2 (some .boolean) :: TB
abbrev cX3_setSymbol : ByteArray := prog_5_method_6_code
def yX3_setSymbol : MethodName := ⟨RX3, "setSymbol", "(IJ)V"⟩
abbrev kw_X3_setSymbol : List Cond := .code yX3_setSymbol cX3_setSymbol 4 none :: TB
abbrev cX5_row : ByteArray := prog_1_method_5_code
def yX5_row : MethodName := ⟨RX5, "row", "(II)J"⟩
abbrev kw_X5_row : List Cond := .code yX5_row cX5_row 4 (some .long) :: TB
abbrev cX5_isNumber : ByteArray := prog_1_method_25_code
def yX5_isNumber : MethodName := ⟨RX5, "isNumber", "(I)Z"⟩
abbrev kw_X5_isNumber : List Cond := .code yX5_isNumber cX5_isNumber 1 (some .boolean) :: TB
abbrev cX3_rowOf : ByteArray := prog_5_method_11_code
def yX3_rowOf : MethodName := ⟨RX3, "rowOf", "(I)J"⟩
abbrev kw_X3_rowOf : List Cond := .code yX3_rowOf cX3_rowOf 7 (some .long) :: TB
abbrev cX5_drawnModulo : ByteArray := prog_1_method_29_code
def yX5_drawnModulo : MethodName := ⟨RX5, "drawnModulo", "(II)I"⟩
abbrev kw_X5_drawnModulo : List Cond := .code yX5_drawnModulo cX5_drawnModulo 2 (some .int) :: TB
abbrev cX3_degreeFor : ByteArray := prog_5_method_12_code
def yX3_degreeFor : MethodName := ⟨RX3, "degreeFor", "(I)I"⟩
abbrev kw_X3_degreeFor : List Cond := .code yX3_degreeFor cX3_degreeFor 4 (some .int) :: TB
abbrev cX3_firstOutside : ByteArray := prog_5_method_13_code
def yX3_firstOutside : MethodName := ⟨RX3, "firstOutside", "(JI)I"⟩
abbrev kw_X3_firstOutside : List Cond := .code yX3_firstOutside cX3_firstOutside 6 (some .int) :: TB
abbrev cX5_sumRow : ByteArray := prog_1_method_6_code
def yX5_sumRow : MethodName := ⟨RX5, "sumRow", "(II)J"⟩
abbrev kw_X5_sumRow : List Cond := .code yX5_sumRow cX5_sumRow 4 (some .long) :: TB
abbrev cX5_part : ByteArray := prog_1_method_7_code
def yX5_part : MethodName := ⟨RX5, "part", "(II)J"⟩
abbrev kw_X5_part : List Cond := .code yX5_part cX5_part 4 (some .long) :: TB
abbrev cX3_hasPart : ByteArray := prog_5_method_5_code
def yX3_hasPart : MethodName := ⟨RX3, "hasPart", "(I)Z"⟩
abbrev kw_X3_hasPart : List Cond := .code yX3_hasPart cX3_hasPart 2 (some .boolean) :: TB
abbrev cX3_partValue : ByteArray := prog_5_method_8_code
def yX3_partValue : MethodName := ⟨RX3, "partValue", "(I)J"⟩
abbrev kw_X3_partValue : List Cond := .code yX3_partValue cX3_partValue 2 (some .long) :: TB
abbrev cX3_valueOfSymbols : ByteArray := prog_5_method_9_code
def yX3_valueOfSymbols : MethodName := ⟨RX3, "valueOfSymbols", "(J)J"⟩
abbrev kw_X3_valueOfSymbols : List Cond := .code yX3_valueOfSymbols cX3_valueOfSymbols 6 (some .long) :: TB
abbrev cX5_frame : ByteArray := prog_1_method_8_code
def yX5_frame : MethodName := ⟨RX5, "frame", "(II)I"⟩
abbrev kw_X5_frame : List Cond := .code yX5_frame cX5_frame 4 (some .int) :: TB
abbrev cX0_shorten : ByteArray := prog_2_method_5_code
def yX0_shorten : MethodName := ⟨RX0, "shorten", "(I)V"⟩
abbrev kw_X0_shorten : List Cond := .code yX0_shorten cX0_shorten 2 none :: TB
abbrev cX0_append : ByteArray := prog_2_method_6_code
def yX0_append : MethodName := ⟨RX0, "append", "(JI)V"⟩
abbrev kw_X0_append : List Cond := .code yX0_append cX0_append 5 none :: TB
abbrev cX0_put : ByteArray := prog_2_method_4_code
def yX0_put : MethodName := ⟨RX0, "put", "(II)V"⟩
abbrev kw_X0_put : List Cond := .code yX0_put cX0_put 3 none :: TB
abbrev cX0_has : ByteArray := prog_2_method_2_code
def yX0_has : MethodName := ⟨RX0, "has", "(I)Z"⟩
abbrev kw_X0_has : List Cond := .code yX0_has cX0_has 2 (some .boolean) :: TB
abbrev cX3_outputOf : ByteArray := prog_5_method_10_code
def yX3_outputOf : MethodName := ⟨RX3, "outputOf", "(I)J"⟩
abbrev kw_X3_outputOf : List Cond := .code yX3_outputOf cX3_outputOf 7 (some .long) :: TB
abbrev cX0_sumOfFirst : ByteArray := prog_2_method_8_code
def yX0_sumOfFirst : MethodName := ⟨RX0, "sumOfFirst", "(I)I"⟩
abbrev kw_X0_sumOfFirst : List Cond := .code yX0_sumOfFirst cX0_sumOfFirst 5 (some .int) :: TB
abbrev cX0_at : ByteArray := prog_2_method_3_code
def yX0_at : MethodName := ⟨RX0, "at", "(I)I"⟩
abbrev kw_X0_at : List Cond := .code yX0_at cX0_at 2 (some .int) :: TB
abbrev cX5_frameByte : ByteArray := prog_1_method_9_code
def yX5_frameByte : MethodName := ⟨RX5, "frameByte", "(I)I"⟩
abbrev kw_X5_frameByte : List Cond := .code yX5_frameByte cX5_frameByte 2 (some .int) :: TB
abbrev cX5_poke : ByteArray := prog_1_method_10_code
def yX5_poke : MethodName := ⟨RX5, "poke", "(II)I"⟩
abbrev kw_X5_poke : List Cond := .code yX5_poke cX5_poke 3 (some .int) :: TB
abbrev cX5_sign : ByteArray := prog_1_method_11_code
def yX5_sign : MethodName := ⟨RX5, "sign", "()I"⟩
abbrev kw_X5_sign : List Cond := .code yX5_sign cX5_sign 3 (some .int) :: TB
abbrev cX5_take : ByteArray := prog_1_method_12_code
def yX5_take : MethodName := ⟨RX5, "take", "()I"⟩
abbrev kw_X5_take : List Cond := .code yX5_take cX5_take 2 (some .int) :: TB
abbrev cX5_receiverAt : ByteArray := prog_1_method_24_code
def yX5_receiverAt : MethodName := ⟨RX5, "receiverAt", "(I)LFountainRows$Receiver;"⟩
abbrev kw_X5_receiverAt : List Cond := .code yX5_receiverAt cX5_receiverAt 2 (some (.object "FountainRows$Receiver")) :: TB
abbrev cX2_takeFrame : ByteArray := prog_4_method_3_code
def yX2_takeFrame : MethodName := ⟨RX2, "takeFrame", "(LFountainRows$Bytes;)I"⟩
abbrev kw_X2_takeFrame : List Cond := .code yX2_takeFrame cX2_takeFrame 3 (some .int) :: TB
abbrev cX0_endsWithItsSum : ByteArray := prog_2_method_9_code
def yX0_endsWithItsSum : MethodName := ⟨RX0, "endsWithItsSum", "()Z"⟩
abbrev kw_X0_endsWithItsSum : List Cond := .code yX0_endsWithItsSum cX0_endsWithItsSum 2 (some .boolean) :: TB
abbrev cX0_numberAt : ByteArray := prog_2_method_7_code
def yX0_numberAt : MethodName := ⟨RX0, "numberAt", "(II)J"⟩
abbrev kw_X0_numberAt : List Cond := .code yX0_numberAt cX0_numberAt 6 (some .long) :: TB
abbrev cX2_accept : ByteArray := prog_4_method_4_code
def yX2_accept : MethodName := ⟨RX2, "accept", "(LFountainRows$Bytes;I)I"⟩
abbrev kw_X2_accept : List Cond := .code yX2_accept cX2_accept 8 (some .int) :: TB
abbrev cX2_hasTakenNumber : ByteArray := prog_4_method_6_code
def yX2_hasTakenNumber : MethodName := ⟨RX2, "hasTakenNumber", "(I)Z"⟩
abbrev kw_X2_hasTakenNumber : List Cond := .code yX2_hasTakenNumber cX2_hasTakenNumber 3 (some .boolean) :: TB
abbrev cX4_contradicts : ByteArray := prog_6_method_3_code
def yX4_contradicts : MethodName := ⟨RX4, "contradicts", "(JJ)Z"⟩
abbrev kw_X4_contradicts : List Cond := .code yX4_contradicts cX4_contradicts 5 (some .boolean) :: TB
abbrev cX5_told : ByteArray := prog_1_method_13_code
def yX5_told : MethodName := ⟨RX5, "told", "(II)I"⟩
abbrev kw_X5_told : List Cond := .code yX5_told cX5_told 4 (some .int) :: TB
abbrev cX2_tell : ByteArray := prog_4_method_7_code
def yX2_tell : MethodName := ⟨RX2, "tell", "(I)I"⟩
abbrev kw_X2_tell : List Cond := .code yX2_tell cX2_tell 2 (some .int) :: TB
abbrev cX4_countAlone : ByteArray := prog_6_method_6_code
def yX4_countAlone : MethodName := ⟨RX4, "countAlone", "()I"⟩
abbrev kw_X4_countAlone : List Cond := .code yX4_countAlone cX4_countAlone 3 (some .int) :: TB
abbrev cX4_holdsAlone : ByteArray := prog_6_method_5_code
def yX4_holdsAlone : MethodName := ⟨RX4, "holdsAlone", "(I)Z"⟩
abbrev kw_X4_holdsAlone : List Cond := .code yX4_holdsAlone cX4_holdsAlone 2 (some .boolean) :: TB
abbrev cX2_freshPeeling : ByteArray := prog_4_method_9_code
def yX2_freshPeeling : MethodName := ⟨RX2, "freshPeeling", "()LFountainRows$Peeling;"⟩
abbrev kw_X2_freshPeeling : List Cond := .code yX2_freshPeeling cX2_freshPeeling 1 (some (.object "FountainRows$Peeling")) :: TB
abbrev cX1_run : ByteArray := prog_3_method_2_code
def yX1_run : MethodName := ⟨RX1, "run", "([JII)V"⟩
abbrev kw_X1_run : List Cond := .code yX1_run cX1_run 7 none :: TB
abbrev cX1_onlyOpenPart : ByteArray := prog_3_method_3_code
def yX1_onlyOpenPart : MethodName := ⟨RX1, "onlyOpenPart", "([JI)J"⟩
abbrev kw_X1_onlyOpenPart : List Cond := .code yX1_onlyOpenPart cX1_onlyOpenPart 4 (some .long) :: TB
abbrev cXJ_bitCount : ByteArray := prog_9_method_50_code
def yXJ_bitCount : MethodName := ⟨RXJ, "bitCount", "(J)I"⟩
abbrev kw_XJ_bitCount : List Cond := .code yXJ_bitCount cXJ_bitCount 2 (some .int) :: TB
abbrev cX1_mostSharedPart : ByteArray := prog_3_method_4_code
def yX1_mostSharedPart : MethodName := ⟨RX1, "mostSharedPart", "([JII)J"⟩
abbrev kw_X1_mostSharedPart : List Cond := .code yX1_mostSharedPart cX1_mostSharedPart 9 (some .long) :: TB
abbrev cX1_countRowsWith : ByteArray := prog_3_method_5_code
def yX1_countRowsWith : MethodName := ⟨RX1, "countRowsWith", "(I[JI)I"⟩
abbrev kw_X1_countRowsWith : List Cond := .code yX1_countRowsWith cX1_countRowsWith 5 (some .int) :: TB
abbrev cX5_taken : ByteArray := prog_1_method_14_code
def yX5_taken : MethodName := ⟨RX5, "taken", "(II)I"⟩
abbrev kw_X5_taken : List Cond := .code yX5_taken cX5_taken 4 (some .int) :: TB
abbrev cX2_hasTaken : ByteArray := prog_4_method_5_code
def yX2_hasTaken : MethodName := ⟨RX2, "hasTaken", "(I)Z"⟩
abbrev kw_X2_hasTaken : List Cond := .code yX2_hasTaken cX2_hasTaken 2 (some .boolean) :: TB
abbrev cX5_isKnown : ByteArray := prog_1_method_15_code
def yX5_isKnown : MethodName := ⟨RX5, "isKnown", "(II)I"⟩
abbrev kw_X5_isKnown : List Cond := .code yX5_isKnown cX5_isKnown 4 (some .int) :: TB
abbrev cX5_known : ByteArray := prog_1_method_16_code
def yX5_known : MethodName := ⟨RX5, "known", "(II)J"⟩
abbrev kw_X5_known : List Cond := .code yX5_known cX5_known 4 (some .long) :: TB
abbrev cX5_peeled : ByteArray := prog_1_method_17_code
def yX5_peeled : MethodName := ⟨RX5, "peeled", "(II)I"⟩
abbrev kw_X5_peeled : List Cond := .code yX5_peeled cX5_peeled 4 (some .int) :: TB
abbrev cX2_peelingOf : ByteArray := prog_4_method_8_code
def yX2_peelingOf : MethodName := ⟨RX2, "peelingOf", "(I)I"⟩
abbrev kw_X2_peelingOf : List Cond := .code yX2_peelingOf cX2_peelingOf 3 (some .int) :: TB
abbrev cX5_image : ByteArray := prog_1_method_18_code
def yX5_image : MethodName := ⟨RX5, "image", "(I)I"⟩
abbrev kw_X5_image : List Cond := .code yX5_image cX5_image 3 (some .int) :: TB
abbrev cX2_writeTo : ByteArray := prog_4_method_10_code
def yX2_writeTo : MethodName := ⟨RX2, "writeTo", "(LFountainRows$Bytes;)V"⟩
abbrev kw_X2_writeTo : List Cond := .code yX2_writeTo cX2_writeTo 3 none :: TB
abbrev cX5_imageByte : ByteArray := prog_1_method_19_code
def yX5_imageByte : MethodName := ⟨RX5, "imageByte", "(I)I"⟩
abbrev kw_X5_imageByte : List Cond := .code yX5_imageByte cX5_imageByte 2 (some .int) :: TB
abbrev cX5_setByte : ByteArray := prog_1_method_20_code
def yX5_setByte : MethodName := ⟨RX5, "setByte", "(II)I"⟩
abbrev kw_X5_setByte : List Cond := .code yX5_setByte cX5_setByte 4 (some .int) :: TB
abbrev cX5_cut : ByteArray := prog_1_method_21_code
def yX5_cut : MethodName := ⟨RX5, "cut", "(I)I"⟩
abbrev kw_X5_cut : List Cond := .code yX5_cut cX5_cut 3 (some .int) :: TB
abbrev cX5_resume : ByteArray := prog_1_method_22_code
def yX5_resume : MethodName := ⟨RX5, "resume", "(I)I"⟩
abbrev kw_X5_resume : List Cond := .code yX5_resume cX5_resume 4 (some .int) :: TB
abbrev cX2_faultOf : ByteArray := prog_4_method_11_code
def yX2_faultOf : MethodName := ⟨RX2, "faultOf", "(LFountainRows$Bytes;)I"⟩
abbrev kw_X2_faultOf : List Cond := .code yX2_faultOf cX2_faultOf 2 (some .int) :: TB
abbrev cX2_countIn : ByteArray := prog_4_method_13_code
def yX2_countIn : MethodName := ⟨RX2, "countIn", "(LFountainRows$Bytes;)I"⟩
abbrev kw_X2_countIn : List Cond := .code yX2_countIn cX2_countIn 1 (some .int) :: TB
abbrev cX2_entryBytes : ByteArray := prog_4_method_14_code
def yX2_entryBytes : MethodName := ⟨RX2, "entryBytes", "()I"⟩
abbrev kw_X2_entryBytes : List Cond := .code yX2_entryBytes cX2_entryBytes 1 (some .int) :: TB
abbrev cX2_readFrom : ByteArray := prog_4_method_12_code
def yX2_readFrom : MethodName := ⟨RX2, "readFrom", "(LFountainRows$Bytes;)V"⟩
abbrev kw_X2_readFrom : List Cond := .code yX2_readFrom cX2_readFrom 4 none :: TB
abbrev cX6_init : ByteArray := prog_8_method_1_code
def yX6_init : MethodName := ⟨RX6, "<init>", "()V"⟩
abbrev kw_X6_init : List Cond := .code yX6_init cX6_init 1 none :: TB
abbrev cX6_degree : ByteArray := prog_8_method_2_code
def yX6_degree : MethodName := ⟨RX6, "degree", "(II)I"⟩
abbrev kw_X6_degree : List Cond := .code yX6_degree cX6_degree 4 (some .int) :: TB
abbrev cX6_source : ByteArray := prog_8_method_3_code
def yX6_source : MethodName := ⟨RX6, "source", "(IIII)I"⟩
abbrev kw_X6_source : List Cond := .code yX6_source cX6_source 8 (some .int) :: TB
abbrev cX6_symbol : ByteArray := prog_8_method_8_code
def yX6_symbol : MethodName := ⟨RX6, "symbol", "(IIJ)I"⟩
abbrev kw_X6_symbol : List Cond := .code yX6_symbol cX6_symbol 5 (some .int) :: TB
abbrev cX6_isSource : ByteArray := prog_8_method_4_code
def yX6_isSource : MethodName := ⟨RX6, "isSource", "(I)Z"⟩
abbrev kw_X6_isSource : List Cond := .code yX6_isSource cX6_isSource 2 (some .boolean) :: TB
abbrev cX6_lowest : ByteArray := prog_8_method_7_code
def yX6_lowest : MethodName := ⟨RX6, "lowest", "(IJ)J"⟩
abbrev kw_X6_lowest : List Cond := .code yX6_lowest cX6_lowest 4 (some .long) :: TB
abbrev cX6_row : ByteArray := prog_8_method_15_code
def yX6_row : MethodName := ⟨RX6, "row", "(II)J"⟩
abbrev kw_X6_row : List Cond := .code yX6_row cX6_row 3 (some .long) :: TB
abbrev cX6_rowOf : ByteArray := prog_8_method_11_code
def yX6_rowOf : MethodName := ⟨RX6, "rowOf", "(II)J"⟩
abbrev kw_X6_rowOf : List Cond := .code yX6_rowOf cX6_rowOf 12 (some .long) :: TB
abbrev cX6_drawn : ByteArray := prog_8_method_9_code
def yX6_drawn : MethodName := ⟨RX6, "drawn", "()I"⟩
abbrev kw_X6_drawn : List Cond := .code yX6_drawn cX6_drawn 1 (some .int) :: TB
abbrev cX6_parts : ByteArray := prog_8_method_5_code
def yX6_parts : MethodName := ⟨RX6, "parts", "(I)I"⟩
abbrev kw_X6_parts : List Cond := .code yX6_parts cX6_parts 2 (some .int) :: TB
abbrev cX6_sumRow : ByteArray := prog_8_method_16_code
def yX6_sumRow : MethodName := ⟨RX6, "sumRow", "(II)J"⟩
abbrev kw_X6_sumRow : List Cond := .code yX6_sumRow cX6_sumRow 3 (some .long) :: TB
abbrev cX6_sumOf : ByteArray := prog_8_method_10_code
def yX6_sumOf : MethodName := ⟨RX6, "sumOf", "(II)J"⟩
abbrev kw_X6_sumOf : List Cond := .code yX6_sumOf cX6_sumOf 6 (some .long) :: TB
abbrev cX6_part : ByteArray := prog_8_method_17_code
def yX6_part : MethodName := ⟨RX6, "part", "(II)J"⟩
abbrev kw_X6_part : List Cond := .code yX6_part cX6_part 3 (some .long) :: TB
abbrev cX6_isPart : ByteArray := prog_8_method_6_code
def yX6_isPart : MethodName := ⟨RX6, "isPart", "(II)Z"⟩
abbrev kw_X6_isPart : List Cond := .code yX6_isPart cX6_isPart 3 (some .boolean) :: TB
abbrev cX6_partOf : ByteArray := prog_8_method_12_code
def yX6_partOf : MethodName := ⟨RX6, "partOf", "(II)J"⟩
abbrev kw_X6_partOf : List Cond := .code yX6_partOf cX6_partOf 3 (some .long) :: TB
abbrev cX6_all : ByteArray := prog_8_method_13_code
def yX6_all : MethodName := ⟨RX6, "all", "(IJ)J"⟩
abbrev kw_X6_all : List Cond := .code yX6_all cX6_all 7 (some .long) :: TB
abbrev cX6_frame : ByteArray := prog_8_method_19_code
def yX6_frame : MethodName := ⟨RX6, "frame", "(II)I"⟩
abbrev kw_X6_frame : List Cond := .code yX6_frame cX6_frame 7 (some .int) :: TB
abbrev cX6_output : ByteArray := prog_8_method_14_code
def yX6_output : MethodName := ⟨RX6, "output", "(II)J"⟩
abbrev kw_X6_output : List Cond := .code yX6_output cX6_output 8 (some .long) :: TB
abbrev cX6_sign : ByteArray := prog_8_method_22_code
def yX6_sign : MethodName := ⟨RX6, "sign", "()I"⟩
abbrev kw_X6_sign : List Cond := .code yX6_sign cX6_sign 2 (some .int) :: TB
abbrev cX6_sum : ByteArray := prog_8_method_18_code
def yX6_sum : MethodName := ⟨RX6, "sum", "([II)I"⟩
abbrev kw_X6_sum : List Cond := .code yX6_sum cX6_sum 6 (some .int) :: TB
abbrev cX6_frameByte : ByteArray := prog_8_method_20_code
def yX6_frameByte : MethodName := ⟨RX6, "frameByte", "(I)I"⟩
abbrev kw_X6_frameByte : List Cond := .code yX6_frameByte cX6_frameByte 2 (some .int) :: TB
abbrev cX6_poke : ByteArray := prog_8_method_21_code
def yX6_poke : MethodName := ⟨RX6, "poke", "(II)I"⟩
abbrev kw_X6_poke : List Cond := .code yX6_poke cX6_poke 3 (some .int) :: TB
abbrev cX6_take : ByteArray := prog_8_method_30_code
def yX6_take : MethodName := ⟨RX6, "take", "()I"⟩
abbrev kw_X6_take : List Cond := .code yX6_take cX6_take 7 (some .int) :: TB
abbrev cX6_wasTaken : ByteArray := prog_8_method_27_code
def yX6_wasTaken : MethodName := ⟨RX6, "wasTaken", "(II)Z"⟩
abbrev kw_X6_wasTaken : List Cond := .code yX6_wasTaken cX6_wasTaken 4 (some .boolean) :: TB
abbrev cX6_isContrary : ByteArray := prog_8_method_28_code
def yX6_isContrary : MethodName := ⟨RX6, "isContrary", "(IIJ)Z"⟩
abbrev kw_X6_isContrary : List Cond := .code yX6_isContrary cX6_isContrary 5 (some .boolean) :: TB
abbrev cX6_build : ByteArray := prog_8_method_26_code
def yX6_build : MethodName := ⟨RX6, "build", "(I)V"⟩
abbrev kw_X6_build : List Cond := .code yX6_build cX6_build 3 none :: TB
abbrev cX6_rowAt : ByteArray := prog_8_method_25_code
def yX6_rowAt : MethodName := ⟨RX6, "rowAt", "(II)J"⟩
abbrev kw_X6_rowAt : List Cond := .code yX6_rowAt cX6_rowAt 3 (some .long) :: TB
abbrev cX6_add : ByteArray := prog_8_method_24_code
def yX6_add : MethodName := ⟨RX6, "add", "(JJ)V"⟩
abbrev kw_X6_add : List Cond := .code yX6_add cX6_add 6 none :: TB
abbrev cX6_reduce : ByteArray := prog_8_method_23_code
def yX6_reduce : MethodName := ⟨RX6, "reduce", "(JJ)V"⟩
abbrev kw_X6_reduce : List Cond := .code yX6_reduce cX6_reduce 6 none :: TB
abbrev cX6_keep : ByteArray := prog_8_method_29_code
def yX6_keep : MethodName := ⟨RX6, "keep", "(IIJ)V"⟩
abbrev kw_X6_keep : List Cond := .code yX6_keep cX6_keep 5 none :: TB
abbrev cX6_told : ByteArray := prog_8_method_36_code
def yX6_told : MethodName := ⟨RX6, "told", "(II)I"⟩
abbrev kw_X6_told : List Cond := .code yX6_told cX6_told 5 (some .int) :: TB
abbrev cX6_knows : ByteArray := prog_8_method_31_code
def yX6_knows : MethodName := ⟨RX6, "knows", "(I)Z"⟩
abbrev kw_X6_knows : List Cond := .code yX6_knows cX6_knows 2 (some .boolean) :: TB
abbrev cX6_states : ByteArray := prog_8_method_35_code
def yX6_states : MethodName := ⟨RX6, "states", "(II)I"⟩
abbrev kw_X6_states : List Cond := .code yX6_states cX6_states 5 (some .int) :: TB
abbrev cX6_peel : ByteArray := prog_8_method_33_code
def yX6_peel : MethodName := ⟨RX6, "peel", "(I)V"⟩
abbrev kw_X6_peel : List Cond := .code yX6_peel cX6_peel 10 none :: TB
abbrev cX6_count : ByteArray := prog_8_method_32_code
def yX6_count : MethodName := ⟨RX6, "count", "(J)I"⟩
abbrev kw_X6_count : List Cond := .code yX6_count cX6_count 4 (some .int) :: TB
abbrev cX6_most : ByteArray := prog_8_method_34_code
def yX6_most : MethodName := ⟨RX6, "most", "(IIJ)I"⟩
abbrev kw_X6_most : List Cond := .code yX6_most cX6_most 12 (some .int) :: TB
abbrev cX6_taken : ByteArray := prog_8_method_37_code
def yX6_taken : MethodName := ⟨RX6, "taken", "(II)I"⟩
abbrev kw_X6_taken : List Cond := .code yX6_taken cX6_taken 3 (some .int) :: TB
abbrev cX6_isKnown : ByteArray := prog_8_method_38_code
def yX6_isKnown : MethodName := ⟨RX6, "isKnown", "(II)I"⟩
abbrev kw_X6_isKnown : List Cond := .code yX6_isKnown cX6_isKnown 3 (some .int) :: TB
abbrev cX6_known : ByteArray := prog_8_method_39_code
def yX6_known : MethodName := ⟨RX6, "known", "(II)J"⟩
abbrev kw_X6_known : List Cond := .code yX6_known cX6_known 3 (some .long) :: TB
abbrev cX6_peeled : ByteArray := prog_8_method_40_code
def yX6_peeled : MethodName := ⟨RX6, "peeled", "(II)I"⟩
abbrev kw_X6_peeled : List Cond := .code yX6_peeled cX6_peeled 3 (some .int) :: TB
abbrev cX6_image : ByteArray := prog_8_method_42_code
def yX6_image : MethodName := ⟨RX6, "image", "(I)I"⟩
abbrev kw_X6_image : List Cond := .code yX6_image cX6_image 3 (some .int) :: TB
abbrev cX6_say : ByteArray := prog_8_method_41_code
def yX6_say : MethodName := ⟨RX6, "say", "(JI)V"⟩
abbrev kw_X6_say : List Cond := .code yX6_say cX6_say 5 none :: TB
abbrev cX6_imageByte : ByteArray := prog_8_method_43_code
def yX6_imageByte : MethodName := ⟨RX6, "imageByte", "(I)I"⟩
abbrev kw_X6_imageByte : List Cond := .code yX6_imageByte cX6_imageByte 2 (some .int) :: TB
abbrev cX6_setByte : ByteArray := prog_8_method_44_code
def yX6_setByte : MethodName := ⟨RX6, "setByte", "(II)I"⟩
abbrev kw_X6_setByte : List Cond := .code yX6_setByte cX6_setByte 4 (some .int) :: TB
abbrev cX6_cut : ByteArray := prog_8_method_45_code
def yX6_cut : MethodName := ⟨RX6, "cut", "(I)I"⟩
abbrev kw_X6_cut : List Cond := .code yX6_cut cX6_cut 3 (some .int) :: TB
abbrev cX6_resume : ByteArray := prog_8_method_47_code
def yX6_resume : MethodName := ⟨RX6, "resume", "(I)I"⟩
abbrev kw_X6_resume : List Cond := .code yX6_resume cX6_resume 8 (some .int) :: TB
abbrev cX6_number : ByteArray := prog_8_method_46_code
def yX6_number : MethodName := ⟨RX6, "number", "(II)J"⟩
abbrev kw_X6_number : List Cond := .code yX6_number cX6_number 6 (some .long) :: TB
abbrev cL_law : ByteArray := code
def yL_law : MethodName := ⟨RL, "law", "([I)Z"⟩
abbrev vwCl : List vw_C := [(RX0, TX0, 2), (RX1, TX1, 3), (RX2, TX2, 11), (RX3, TX3, 9), (RX4, TX4, 5), (RX5, TX5, 7), (RX6, TX6, 25)]
