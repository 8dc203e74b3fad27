theorem gz_tab_200000_200010 (x : Int32) : (x.toInt < 200000 ∨ 200010 < x.toInt) ∨ x = 200000 ∨ x = 200001 ∨ x = 200002 ∨ x = 200003 ∨ x = 200004 ∨ x = 200005 ∨ x = 200006 ∨ x = 200007 ∨ x = 200008 ∨ x = 200009 ∨ x = 200010 := by
  by_cases h : x.toInt < 200000 ∨ 200010 < x.toInt
  · exact Or.inl h
  · refine Or.inr ?_
    have hc : x.toInt = 200000 ∨ x.toInt = 200001 ∨ x.toInt = 200002 ∨ x.toInt = 200003 ∨ x.toInt = 200004 ∨ x.toInt = 200005 ∨ x.toInt = 200006 ∨ x.toInt = 200007 ∨ x.toInt = 200008 ∨ x.toInt = 200009 ∨ x.toInt = 200010 := by omega
    rcases hc with h | h | h | h | h | h | h | h | h | h | h
    · exact (Or.inl (Int32.toInt_inj.mp (h.trans (by decide))))
    · exact (Or.inr (Or.inl (Int32.toInt_inj.mp (h.trans (by decide)))))
    · exact (Or.inr (Or.inr (Or.inl (Int32.toInt_inj.mp (h.trans (by decide))))))
    · exact (Or.inr (Or.inr (Or.inr (Or.inl (Int32.toInt_inj.mp (h.trans (by decide)))))))
    · exact (Or.inr (Or.inr (Or.inr (Or.inr (Or.inl (Int32.toInt_inj.mp (h.trans (by decide))))))))
    · exact (Or.inr (Or.inr (Or.inr (Or.inr (Or.inr (Or.inl (Int32.toInt_inj.mp (h.trans (by decide)))))))))
    · exact (Or.inr (Or.inr (Or.inr (Or.inr (Or.inr (Or.inr (Or.inl (Int32.toInt_inj.mp (h.trans (by decide))))))))))
    · exact (Or.inr (Or.inr (Or.inr (Or.inr (Or.inr (Or.inr (Or.inr (Or.inl (Int32.toInt_inj.mp (h.trans (by decide)))))))))))
    · exact (Or.inr (Or.inr (Or.inr (Or.inr (Or.inr (Or.inr (Or.inr (Or.inr (Or.inl (Int32.toInt_inj.mp (h.trans (by decide))))))))))))
    · exact (Or.inr (Or.inr (Or.inr (Or.inr (Or.inr (Or.inr (Or.inr (Or.inr (Or.inr (Or.inl (Int32.toInt_inj.mp (h.trans (by decide)))))))))))))
    · exact (Or.inr (Or.inr (Or.inr (Or.inr (Or.inr (Or.inr (Or.inr (Or.inr (Or.inr (Or.inr (Int32.toInt_inj.mp (h.trans (by decide)))))))))))))
theorem ltw_17 : (.fieldLink RX5 25 "GossamerGate$Rule" "clauses" "I" : Cond) ∈ lw_tbl := (List.mem_append_right _ (List.mem_append_left _ (List.mem_of_getElem? (l := tables_1_1) (i := 101) (by decide +kernel))))
theorem ltw_18 : (.fieldLink RX5 29 "GossamerGate$Rule" "length" "I" : Cond) ∈ lw_tbl := (List.mem_append_right _ (List.mem_append_left _ (List.mem_of_getElem? (l := tables_1_1) (i := 102) (by decide +kernel))))
theorem ltw_19 : (.code yX5_clear cX5_clear 1 none : Cond) ∈ lw_tbl := (List.mem_append_right _ (List.mem_append_right _ (List.mem_append_right _ (List.mem_append_left _ (List.mem_of_getElem? (l := tables_1_3) (i := 88) (by decide +kernel))))))
theorem ltw_20 : (.fieldLink RX5 9 "GossamerGate$Rule" "steps" "[I" : Cond) ∈ lw_tbl := (List.mem_append_right _ (List.mem_append_left _ (List.mem_of_getElem? (l := tables_1_1) (i := 97) (by decide +kernel))))
theorem ltw_21 : (.code yX5_add cX5_add 2 none : Cond) ∈ lw_tbl := (List.mem_append_right _ (List.mem_append_right _ (List.mem_append_right _ (List.mem_append_left _ (List.mem_of_getElem? (l := tables_1_3) (i := 111) (by decide +kernel))))))
theorem ltw_22 : (.fieldLink RX5 15 "GossamerGate$Rule" "sumEnds" "[I" : Cond) ∈ lw_tbl := (List.mem_append_right _ (List.mem_append_left _ (List.mem_of_getElem? (l := tables_1_1) (i := 98) (by decide +kernel))))
theorem ltw_23 : (.fieldLink RX5 18 "GossamerGate$Rule" "testEnds" "[I" : Cond) ∈ lw_tbl := (List.mem_append_right _ (List.mem_append_left _ (List.mem_of_getElem? (l := tables_1_1) (i := 99) (by decide +kernel))))
theorem ltw_24 : (.code yX5_closeClause cX5_closeClause 2 none : Cond) ∈ lw_tbl := (List.mem_append_right _ (List.mem_append_right _ (List.mem_append_right _ (List.mem_append_left _ (List.mem_of_getElem? (l := tables_1_3) (i := 151) (by decide +kernel))))))
theorem ltw_25 : (.methodLink RX5 32 arraycopyName : Cond) ∈ lw_tbl := (List.mem_append_right _ (List.mem_append_right _ (List.mem_append_right _ (List.mem_append_left _ (List.mem_of_getElem? (l := tables_1_3) (i := 157) (by decide +kernel))))))
theorem ltw_26 : (.code yX5_copyFrom cX5_copyFrom 2 none : Cond) ∈ lw_tbl := (List.mem_append_right _ (List.mem_append_right _ (List.mem_append_right _ (List.mem_append_left _ (List.mem_of_getElem? (l := tables_1_3) (i := 156) (by decide +kernel))))))
theorem ltw_27 : (.code yX5_wordOf cX5_wordOf 2 (some .long) : Cond) ∈ lw_tbl := (List.mem_append_right _ (List.mem_append_right _ (List.mem_append_right _ (List.mem_append_right _ (List.mem_append_left _ (List.mem_of_getElem? (l := tables_1_4) (i := 55) (by decide +kernel)))))))
theorem ltw_28 : (.code yX5_joined cX5_joined 5 (some .long) : Cond) ∈ lw_tbl := (List.mem_append_right _ (List.mem_append_right _ (List.mem_append_right _ (List.mem_append_right _ (List.mem_append_left _ (List.mem_of_getElem? (l := tables_1_4) (i := 59) (by decide +kernel)))))))
theorem ltw_29 : (.constant RX5 42 (200000) : Cond) ∈ lw_tbl := (List.mem_append_right _ (List.mem_append_right _ (List.mem_append_right _ (List.mem_append_right _ (List.mem_append_left _ (List.mem_of_getElem? (l := tables_1_4) (i := 51) (by decide +kernel)))))))
theorem ltw_30 : (.constant RX5 48 (200012) : Cond) ∈ lw_tbl := (List.mem_append_right _ (List.mem_append_right _ (List.mem_append_right _ (List.mem_append_right _ (List.mem_append_left _ (List.mem_of_getElem? (l := tables_1_4) (i := 56) (by decide +kernel)))))))
theorem ltw_31 : (.fieldLink RX5 21 "GossamerGate$Rule" "stack" "[J" : Cond) ∈ lw_tbl := (List.mem_append_right _ (List.mem_append_left _ (List.mem_of_getElem? (l := tables_1_1) (i := 100) (by decide +kernel))))
theorem ltw_32 : (.constant RX5 43 (100000) : Cond) ∈ lw_tbl := (List.mem_append_right _ (List.mem_append_right _ (List.mem_append_right _ (List.mem_append_right _ (List.mem_append_left _ (List.mem_of_getElem? (l := tables_1_4) (i := 52) (by decide +kernel)))))))
theorem ltw_33 : (.methodLink RX5 44 yX5_wordOf : Cond) ∈ lw_tbl := (List.mem_append_right _ (List.mem_append_right _ (List.mem_append_right _ (List.mem_append_right _ (List.mem_append_left _ (List.mem_of_getElem? (l := tables_1_4) (i := 53) (by decide +kernel)))))))
theorem ltw_34 : (.static yX5_wordOf : Cond) ∈ lw_tbl := (List.mem_append_right _ (List.mem_append_right _ (List.mem_append_right _ (List.mem_append_right _ (List.mem_append_left _ (List.mem_of_getElem? (l := tables_1_4) (i := 54) (by decide +kernel)))))))
theorem ltw_35 : (.initialized RX5 : Cond) ∈ lw_tbl := (List.mem_append_right _ (List.mem_append_left _ (List.mem_of_getElem? (l := tables_1_1) (i := 6) (by decide +kernel))))
theorem ltw_36 : (.methodLink RX5 49 yX5_joined : Cond) ∈ lw_tbl := (List.mem_append_right _ (List.mem_append_right _ (List.mem_append_right _ (List.mem_append_right _ (List.mem_append_left _ (List.mem_of_getElem? (l := tables_1_4) (i := 57) (by decide +kernel)))))))
theorem ltw_37 : (.static yX5_joined : Cond) ∈ lw_tbl := (List.mem_append_right _ (List.mem_append_right _ (List.mem_append_right _ (List.mem_append_right _ (List.mem_append_left _ (List.mem_of_getElem? (l := tables_1_4) (i := 58) (by decide +kernel)))))))
theorem ltw_38 : (.code yX5_valueOf cX5_valueOf 7 (some .long) : Cond) ∈ lw_tbl := (List.mem_append_right _ (List.mem_append_right _ (List.mem_append_right _ (List.mem_append_right _ (List.mem_append_left _ (List.mem_of_getElem? (l := tables_1_4) (i := 50) (by decide +kernel)))))))
theorem ltw_39 : (.methodLink RX5 38 yX5_valueOf : Cond) ∈ lw_tbl := (List.mem_append_right _ (List.mem_append_right _ (List.mem_append_right _ (List.mem_append_right _ (List.mem_append_left _ (List.mem_of_getElem? (l := tables_1_4) (i := 47) (by decide +kernel)))))))
theorem ltw_40 : (.instanceMethod yX5_valueOf : Cond) ∈ lw_tbl := (List.mem_append_right _ (List.mem_append_right _ (List.mem_append_right _ (List.mem_append_right _ (List.mem_append_left _ (List.mem_of_getElem? (l := tables_1_4) (i := 49) (by decide +kernel)))))))
theorem ltw_41 : (.selects RX5 yX5_valueOf yX5_valueOf : Cond) ∈ lw_tbl := (List.mem_append_left _ (List.mem_map.mpr ⟨(⟨"GossamerGate$Rule", "valueOf", "(II[J)J"⟩, 6), by decide +kernel, rfl⟩))
theorem ltw_42 : (.code yX5_letsGo cX5_letsGo 6 (some .boolean) : Cond) ∈ lw_tbl := (List.mem_append_right _ (List.mem_append_right _ (List.mem_append_right _ (List.mem_append_right _ (List.mem_append_left _ (List.mem_of_getElem? (l := tables_1_4) (i := 46) (by decide +kernel)))))))
set_option maxRecDepth 20000 in
theorem inq_5 : ∀ w ∈ wsX50, w ∈ lw_tbl := by
  have h : wsX50 = [.laysFinal RX5 "GossamerGate$Rule" "steps" "[I", .laysFinal RX5 "GossamerGate$Rule" "sumEnds" "[I", .laysFinal RX5 "GossamerGate$Rule" "testEnds" "[I", .laysFinal RX5 "GossamerGate$Rule" "stack" "[J", .lays RX5 "GossamerGate$Rule" "clauses" "I", .lays RX5 "GossamerGate$Rule" "length" "I"] := by decide +kernel
  rw [h]
  exact List.forall_mem_cons.mpr ⟨(List.mem_append_right _ (List.mem_append_left _ (List.mem_of_getElem? (l := tables_1_1) (i := 104) (by decide +kernel)))), List.forall_mem_cons.mpr ⟨(List.mem_append_right _ (List.mem_append_left _ (List.mem_of_getElem? (l := tables_1_1) (i := 106) (by decide +kernel)))), List.forall_mem_cons.mpr ⟨(List.mem_append_right _ (List.mem_append_left _ (List.mem_of_getElem? (l := tables_1_1) (i := 108) (by decide +kernel)))), List.forall_mem_cons.mpr ⟨(List.mem_append_right _ (List.mem_append_left _ (List.mem_of_getElem? (l := tables_1_1) (i := 110) (by decide +kernel)))), List.forall_mem_cons.mpr ⟨(List.mem_append_right _ (List.mem_append_left _ (List.mem_of_getElem? (l := tables_1_1) (i := 112) (by decide +kernel)))), List.forall_mem_cons.mpr ⟨(List.mem_append_right _ (List.mem_append_left _ (List.mem_of_getElem? (l := tables_1_1) (i := 114) (by decide +kernel)))), fun _ h => absurd h List.not_mem_nil⟩⟩⟩⟩⟩⟩
theorem gcX_5 : gGood wsX50 := gGood_of (by decide +kernel)
def vs_s_X5_clear : List Cond := .code yX5_clear cX5_clear 1 none :: ([.fieldLink RX5 25 "GossamerGate$Rule" "clauses" "I", .fieldLink RX5 29 "GossamerGate$Rule" "length" "I"] ++ (wsX50 ++ []))
theorem gw_s_X5_clear : gGood vs_s_X5_clear := gGood_co (gGood_of (by decide +kernel)) (gGood_app gcX_5 gGood_nil)
theorem il_s_X5_clear : ∀ w ∈ vs_s_X5_clear, w ∈ lw_tbl := List.forall_mem_cons.mpr ⟨ltw_19, List.forall_mem_append.mpr ⟨List.forall_mem_cons.mpr ⟨ltw_17, List.forall_mem_cons.mpr ⟨ltw_18, fun _ h => absurd h List.not_mem_nil⟩⟩, (List.forall_mem_append.mpr ⟨inq_5, fun _ h => absurd h List.not_mem_nil⟩)⟩⟩
theorem j_s_X5_clear_5 : ∀ w ∈ wsX50, w ∈ vs_s_X5_clear := fun _ h => (List.mem_cons_of_mem _ (List.mem_append_right _ (List.mem_append_left _ h)))
def vs_s_X5_add : List Cond := .code yX5_add cX5_add 2 none :: ([.fieldLink RX5 29 "GossamerGate$Rule" "length" "I", .fieldLink RX5 9 "GossamerGate$Rule" "steps" "[I"] ++ (wsX50 ++ []))
theorem gw_s_X5_add : gGood vs_s_X5_add := gGood_co (gGood_of (by decide +kernel)) (gGood_app gcX_5 gGood_nil)
theorem il_s_X5_add : ∀ w ∈ vs_s_X5_add, w ∈ lw_tbl := List.forall_mem_cons.mpr ⟨ltw_21, List.forall_mem_append.mpr ⟨List.forall_mem_cons.mpr ⟨ltw_18, List.forall_mem_cons.mpr ⟨ltw_20, fun _ h => absurd h List.not_mem_nil⟩⟩, (List.forall_mem_append.mpr ⟨inq_5, fun _ h => absurd h List.not_mem_nil⟩)⟩⟩
theorem j_s_X5_add_5 : ∀ w ∈ wsX50, w ∈ vs_s_X5_add := fun _ h => (List.mem_cons_of_mem _ (List.mem_append_right _ (List.mem_append_left _ h)))
def vs_s_X5_closeClause : List Cond := .code yX5_closeClause cX5_closeClause 2 none :: ([.fieldLink RX5 25 "GossamerGate$Rule" "clauses" "I", .fieldLink RX5 15 "GossamerGate$Rule" "sumEnds" "[I", .fieldLink RX5 18 "GossamerGate$Rule" "testEnds" "[I", .fieldLink RX5 29 "GossamerGate$Rule" "length" "I"] ++ (wsX50 ++ []))
theorem gw_s_X5_closeClause : gGood vs_s_X5_closeClause := gGood_co (gGood_of (by decide +kernel)) (gGood_app gcX_5 gGood_nil)
theorem il_s_X5_closeClause : ∀ w ∈ vs_s_X5_closeClause, w ∈ lw_tbl := List.forall_mem_cons.mpr ⟨ltw_24, List.forall_mem_append.mpr ⟨List.forall_mem_cons.mpr ⟨ltw_17, List.forall_mem_cons.mpr ⟨ltw_22, List.forall_mem_cons.mpr ⟨ltw_23, List.forall_mem_cons.mpr ⟨ltw_18, fun _ h => absurd h List.not_mem_nil⟩⟩⟩⟩, (List.forall_mem_append.mpr ⟨inq_5, fun _ h => absurd h List.not_mem_nil⟩)⟩⟩
theorem j_s_X5_closeClause_5 : ∀ w ∈ wsX50, w ∈ vs_s_X5_closeClause := fun _ h => (List.mem_cons_of_mem _ (List.mem_append_right _ (List.mem_append_left _ h)))
def vs_s_X5_copyFrom : List Cond := .code yX5_copyFrom cX5_copyFrom 2 none :: ([.fieldLink RX5 25 "GossamerGate$Rule" "clauses" "I", .fieldLink RX5 29 "GossamerGate$Rule" "length" "I", .fieldLink RX5 9 "GossamerGate$Rule" "steps" "[I", .methodLink RX5 32 arraycopyName, .native arraycopyName, .static arraycopyName, .initialized "java/lang/System", .fieldLink RX5 15 "GossamerGate$Rule" "sumEnds" "[I", .fieldLink RX5 18 "GossamerGate$Rule" "testEnds" "[I"] ++ (wsX50 ++ []))
theorem gw_s_X5_copyFrom : gGood vs_s_X5_copyFrom := gGood_co (gGood_of (by decide +kernel)) (gGood_app gcX_5 gGood_nil)
theorem il_s_X5_copyFrom : ∀ w ∈ vs_s_X5_copyFrom, w ∈ lw_tbl := List.forall_mem_cons.mpr ⟨ltw_26, List.forall_mem_append.mpr ⟨List.forall_mem_cons.mpr ⟨ltw_17, List.forall_mem_cons.mpr ⟨ltw_18, List.forall_mem_cons.mpr ⟨ltw_20, List.forall_mem_cons.mpr ⟨ltw_25, List.forall_mem_cons.mpr ⟨ltw_8, List.forall_mem_cons.mpr ⟨ltw_9, List.forall_mem_cons.mpr ⟨ltw_10, List.forall_mem_cons.mpr ⟨ltw_22, List.forall_mem_cons.mpr ⟨ltw_23, fun _ h => absurd h List.not_mem_nil⟩⟩⟩⟩⟩⟩⟩⟩⟩, (List.forall_mem_append.mpr ⟨inq_5, fun _ h => absurd h List.not_mem_nil⟩)⟩⟩
theorem j_s_X5_copyFrom_5 : ∀ w ∈ wsX50, w ∈ vs_s_X5_copyFrom := fun _ h => (List.mem_cons_of_mem _ (List.mem_append_right _ (List.mem_append_left _ h)))
def vs_s_X5_wordOf : List Cond := .code yX5_wordOf cX5_wordOf 2 (some .long) :: ([] ++ [])
theorem gw_s_X5_wordOf : gGood vs_s_X5_wordOf := gGood_co (gGood_of (by decide +kernel)) gGood_nil
theorem il_s_X5_wordOf : ∀ w ∈ vs_s_X5_wordOf, w ∈ lw_tbl := List.forall_mem_cons.mpr ⟨ltw_27, List.forall_mem_append.mpr ⟨fun _ h => absurd h List.not_mem_nil, fun _ h => absurd h List.not_mem_nil⟩⟩
def vs_s_X5_joined : List Cond := .code yX5_joined cX5_joined 5 (some .long) :: ([] ++ [])
theorem gw_s_X5_joined : gGood vs_s_X5_joined := gGood_co (gGood_of (by decide +kernel)) gGood_nil
theorem il_s_X5_joined : ∀ w ∈ vs_s_X5_joined, w ∈ lw_tbl := List.forall_mem_cons.mpr ⟨ltw_28, List.forall_mem_append.mpr ⟨fun _ h => absurd h List.not_mem_nil, fun _ h => absurd h List.not_mem_nil⟩⟩
def vs_s_X5_valueOf : List Cond := .code yX5_valueOf cX5_valueOf 7 (some .long) :: ([.fieldLink RX5 9 "GossamerGate$Rule" "steps" "[I", .constant RX5 42 (200000), .constant RX5 48 (200012), .fieldLink RX5 21 "GossamerGate$Rule" "stack" "[J", .constant RX5 43 (100000), .methodLink RX5 44 yX5_wordOf, .static yX5_wordOf, .initialized RX5, .methodLink RX5 49 yX5_joined, .static yX5_joined] ++ (wsX50 ++ (vs_s_X5_wordOf ++ (vs_s_X5_joined ++ []))))
theorem gw_s_X5_valueOf : gGood vs_s_X5_valueOf := gGood_co (gGood_of (by decide +kernel)) (gGood_app gcX_5 (gGood_app gw_s_X5_wordOf (gGood_app gw_s_X5_joined gGood_nil)))
theorem il_s_X5_valueOf : ∀ w ∈ vs_s_X5_valueOf, w ∈ lw_tbl := List.forall_mem_cons.mpr ⟨ltw_38, List.forall_mem_append.mpr ⟨List.forall_mem_cons.mpr ⟨ltw_20, List.forall_mem_cons.mpr ⟨ltw_29, List.forall_mem_cons.mpr ⟨ltw_30, List.forall_mem_cons.mpr ⟨ltw_31, List.forall_mem_cons.mpr ⟨ltw_32, List.forall_mem_cons.mpr ⟨ltw_33, List.forall_mem_cons.mpr ⟨ltw_34, List.forall_mem_cons.mpr ⟨ltw_35, List.forall_mem_cons.mpr ⟨ltw_36, List.forall_mem_cons.mpr ⟨ltw_37, fun _ h => absurd h List.not_mem_nil⟩⟩⟩⟩⟩⟩⟩⟩⟩⟩, (List.forall_mem_append.mpr ⟨inq_5, (List.forall_mem_append.mpr ⟨il_s_X5_wordOf, (List.forall_mem_append.mpr ⟨il_s_X5_joined, fun _ h => absurd h List.not_mem_nil⟩)⟩)⟩)⟩⟩
theorem j_s_X5_valueOf_5 : ∀ w ∈ wsX50, w ∈ vs_s_X5_valueOf := fun _ h => (List.mem_cons_of_mem _ (List.mem_append_right _ (List.mem_append_left _ h)))
theorem g_s_X5_valueOf_44_s_X5_wordOf : GoodIn vs_s_X5_valueOf (va_wsS RX5 44 yX5_wordOf vs_s_X5_wordOf) := gz_gi (List.forall_mem_append.mpr ⟨List.forall_mem_cons.mpr ⟨(List.mem_cons_of_mem _ (List.mem_append_left _ (List.mem_of_getElem? (i := 5) rfl))), List.forall_mem_cons.mpr ⟨(List.mem_cons_of_mem _ (List.mem_append_left _ (List.mem_of_getElem? (i := 6) rfl))), List.forall_mem_cons.mpr ⟨(List.mem_cons_of_mem _ (List.mem_append_left _ (List.mem_of_getElem? (i := 7) rfl))), fun _ h => absurd h List.not_mem_nil⟩⟩⟩, (fun w h => (List.mem_cons_of_mem _ (List.mem_append_right _ (List.mem_append_right _ (List.mem_append_left _ h)))))⟩) (gGood_app (gGood_of (by decide +kernel)) gw_s_X5_wordOf)
theorem g_s_X5_valueOf_49_s_X5_joined : GoodIn vs_s_X5_valueOf (va_wsS RX5 49 yX5_joined vs_s_X5_joined) := gz_gi (List.forall_mem_append.mpr ⟨List.forall_mem_cons.mpr ⟨(List.mem_cons_of_mem _ (List.mem_append_left _ (List.mem_of_getElem? (i := 8) rfl))), List.forall_mem_cons.mpr ⟨(List.mem_cons_of_mem _ (List.mem_append_left _ (List.mem_of_getElem? (i := 9) rfl))), List.forall_mem_cons.mpr ⟨(List.mem_cons_of_mem _ (List.mem_append_left _ (List.mem_of_getElem? (i := 7) rfl))), fun _ h => absurd h List.not_mem_nil⟩⟩⟩, (fun w h => (List.mem_cons_of_mem _ (List.mem_append_right _ (List.mem_append_right _ (List.mem_append_right _ (List.mem_append_left _ h))))))⟩) (gGood_app (gGood_of (by decide +kernel)) gw_s_X5_joined)
def vs_s_X5_letsGo : List Cond := .code yX5_letsGo cX5_letsGo 6 (some .boolean) :: ([.fieldLink RX5 25 "GossamerGate$Rule" "clauses" "I", .fieldLink RX5 15 "GossamerGate$Rule" "sumEnds" "[I", .fieldLink RX5 18 "GossamerGate$Rule" "testEnds" "[I", .methodLink RX5 38 yX5_valueOf, .instanceMethod yX5_valueOf, .selects RX5 yX5_valueOf yX5_valueOf, .initialized RX5] ++ (wsX50 ++ (vs_s_X5_valueOf ++ [])))
theorem gw_s_X5_letsGo : gGood vs_s_X5_letsGo := gGood_co (gGood_of (by decide +kernel)) (gGood_app gcX_5 (gGood_app gw_s_X5_valueOf gGood_nil))
theorem il_s_X5_letsGo : ∀ w ∈ vs_s_X5_letsGo, w ∈ lw_tbl := List.forall_mem_cons.mpr ⟨ltw_42, List.forall_mem_append.mpr ⟨List.forall_mem_cons.mpr ⟨ltw_17, List.forall_mem_cons.mpr ⟨ltw_22, List.forall_mem_cons.mpr ⟨ltw_23, List.forall_mem_cons.mpr ⟨ltw_39, List.forall_mem_cons.mpr ⟨ltw_40, List.forall_mem_cons.mpr ⟨ltw_41, List.forall_mem_cons.mpr ⟨ltw_35, fun _ h => absurd h List.not_mem_nil⟩⟩⟩⟩⟩⟩⟩, (List.forall_mem_append.mpr ⟨inq_5, (List.forall_mem_append.mpr ⟨il_s_X5_valueOf, fun _ h => absurd h List.not_mem_nil⟩)⟩)⟩⟩
theorem j_s_X5_letsGo_5 : ∀ w ∈ wsX50, w ∈ vs_s_X5_letsGo := fun _ h => (List.mem_cons_of_mem _ (List.mem_append_right _ (List.mem_append_left _ h)))
theorem g_s_X5_letsGo_38_s_X5_valueOf : GoodIn vs_s_X5_letsGo (wsV RX5 38 RX5 yX5_valueOf vs_s_X5_valueOf) := gz_gi (List.forall_mem_append.mpr ⟨List.forall_mem_cons.mpr ⟨(List.mem_cons_of_mem _ (List.mem_append_left _ (List.mem_of_getElem? (i := 3) rfl))), List.forall_mem_cons.mpr ⟨(List.mem_cons_of_mem _ (List.mem_append_left _ (List.mem_of_getElem? (i := 4) rfl))), List.forall_mem_cons.mpr ⟨(List.mem_cons_of_mem _ (List.mem_append_left _ (List.mem_of_getElem? (i := 5) rfl))), List.forall_mem_cons.mpr ⟨(List.mem_cons_of_mem _ (List.mem_append_left _ (List.mem_of_getElem? (i := 6) rfl))), fun _ h => absurd h List.not_mem_nil⟩⟩⟩⟩, (fun w h => (List.mem_cons_of_mem _ (List.mem_append_right _ (List.mem_append_right _ (List.mem_append_left _ h)))))⟩) (gGood_app (gGood_of (by decide +kernel)) gw_s_X5_valueOf)
set_option maxHeartbeats 4000000 in
set_option maxRecDepth 100000 in
theorem s_X5_clear (l : Launch) (G : va_G) (k : Nat → ClassId) (sa : Nat → Nat) (sz : Nat) (d : Nat) (d_st : Nat) (d_se : Nat) (d_te : Nat) (d_sk : Nat) (d_cl : Int32) (d_ln : Int32) : Met l yX5_clear vs_s_X5_clear ({ frames := 0, cells := 0, slots := 0, locals := 0 } : Room) (gP G k sa [.ref d] [(d, .inr (5, [.ref d_st, .ref d_se, .ref d_te, .ref d_sk, .int d_cl, .int d_ln]))] sz) (va_Qv (fun u : gS => True) (gO G (va_A [(d, .inr (5, [.ref d_st, .ref d_se, .ref d_te, .ref d_sk, .int d_cl, .int d_ln]))] sz) (fun u : gS => [(d, .inr (5, [.ref d_st, .ref d_se, .ref d_te, .ref d_sk, .int 0, .int 0]))])) (va_A [(d, .inr (5, [.ref d_st, .ref d_se, .ref d_te, .ref d_sk, .int d_cl, .int d_ln]))] sz)) 0 0 (va_A [(d, .inr (5, [.ref d_st, .ref d_se, .ref d_te, .ref d_sk, .int d_cl, .int d_ln]))] sz) := by
  refine gz_met (cc := cX5_clear) (maxL := 1) (ret := none) (by decide) rfl (Nat.le_of_ble_eq_true rfl) ?_
  intro p_ e_ s_ m below_ meth_ c_ ls hx hb hr hml hts hown hlocks hin hP hE hZ hD hA hS
  generalize hAe : va_A [(d, .inr (5, [.ref d_st, .ref d_se, .ref d_te, .ref d_sk, .int d_cl, .int d_ln]))] sz = A at hZ hD hA hS ⊢
  intro hl
  have hl : lv_has ls 1 [(0, .ref d)] := hl
  refine lv_aload_n hx hb dX5_clear_0 rfl (lv_at hl 0 rfl) ?_
  refine lv_iconst (v := 0) hx hb dX5_clear_1 (by decide) ?_
  refine va_put (D := G) (ci := 5) (v := .int 0) (ty := .int) (C := RX5) (T := TX5) (N := 6) hx hb hts j_s_X5_clear_5 tyX5 tyX5_ok nmX5 hown hE.K hP hD hS 0 rfl rfl 4 (by decide) (hts (.fieldLink RX5 25 "GossamerGate$Rule" "clauses" "I") (List.mem_cons_of_mem _ (List.mem_append_left _ (List.mem_of_getElem? (i := 0) rfl)))) (fun _ h9 => h9) rfl (by decide +kernel) rfl rfl (Nat.le_of_ble_eq_true rfl) dX5_clear_2 (fun H locs hP hD hS => ?_)
  have hP : va_P G vwCl [(d, .inr (5, [.ref d_st, .ref d_se, .ref d_te, .ref d_sk, .int 0, .int d_ln]))] H := hP
  have hD : va_D A [(d, .inr (5, [.ref d_st, .ref d_se, .ref d_te, .ref d_sk, .int 0, .int d_ln]))] := hD
  refine lv_aload_n hx hb dX5_clear_5 rfl (lv_at hl 0 rfl) ?_
  refine lv_iconst (v := 0) hx hb dX5_clear_6 (by decide) ?_
  refine va_put (D := G) (ci := 5) (v := .int 0) (ty := .int) (C := RX5) (T := TX5) (N := 6) hx hb hts j_s_X5_clear_5 tyX5 tyX5_ok nmX5 hown hE.K hP hD hS 0 rfl rfl 5 (by decide) (hts (.fieldLink RX5 29 "GossamerGate$Rule" "length" "I") (List.mem_cons_of_mem _ (List.mem_append_left _ (List.mem_of_getElem? (i := 1) rfl)))) (fun _ h9 => h9) rfl (by decide +kernel) rfl rfl (Nat.le_of_ble_eq_true rfl) dX5_clear_7 (fun H locs hP hD hS => ?_)
  have hP : va_P G vwCl [(d, .inr (5, [.ref d_st, .ref d_se, .ref d_te, .ref d_sk, .int 0, .int 0]))] H := hP
  have hD : va_D A [(d, .inr (5, [.ref d_st, .ref d_se, .ref d_te, .ref d_sk, .int 0, .int 0]))] := hD
  have hP9 := hP.sub (ws' := ((fun u : gS => [(d, .inr (5, [.ref d_st, .ref d_se, .ref d_te, .ref d_sk, .int 0, .int 0]))]) ((fun _ => 0), (fun _ _ => 0), (fun _ => 0), (fun _ _ => 0), (fun _ => none)))) [0] rfl
  have hD9 := hD.sub (ws' := ((fun u : gS => [(d, .inr (5, [.ref d_st, .ref d_se, .ref d_te, .ref d_sk, .int 0, .int 0]))]) ((fun _ => 0), (fun _ _ => 0), (fun _ => 0), (fun _ _ => 0), (fun _ => none)))) [0] (by decide) rfl
  exact W.vret hx hb hr (fun t ht hW => ⟨⟨((fun _ => 0), (fun _ _ => 0), (fun _ => 0), (fun _ _ => 0), (fun _ => none)), rfl, trivial, by rw [ht]; exact hP9, hD9⟩, hS.F ht⟩) hS.2.2 dX5_clear_10
set_option maxHeartbeats 4000000 in
set_option maxRecDepth 100000 in
theorem s_X5_add (l : Launch) (G : va_G) (k : Nat → ClassId) (sa : Nat → Nat) (sz : Nat) (d : Nat) (d_st : Nat) (d_stF : Nat → Int32) (d_se : Nat) (d_te : Nat) (d_sk : Nat) (d_cl : Int32) (d_ln : Int32) (a : Int32) (h_d_cl : gIv 0 12 d_cl) (h_d_ln : gIv 0 400 d_ln) : Met l yX5_add vs_s_X5_add ({ frames := 0, cells := 0, slots := 0, locals := 0 } : Room) (gP G k sa [.ref d, .int a] [(d, .inr (5, [.ref d_st, .ref d_se, .ref d_te, .ref d_sk, .int d_cl, .int d_ln])), (d_st, .inl (k 0, 400, .inl d_stF))] sz) (va_Qv (fun u : gS => gIv 1 400 (u.1 1000) ∧ True) (gO G (va_A [(d, .inr (5, [.ref d_st, .ref d_se, .ref d_te, .ref d_sk, .int d_cl, .int d_ln])), (d_st, .inl (k 0, 400, .inl d_stF))] sz) (fun u : gS => [(d, .inr (5, [.ref d_st, .ref d_se, .ref d_te, .ref d_sk, .int d_cl, .int (u.1 1000)])), (d_st, .inl (k 0, 400, .inl (u.2.1 1000)))])) (va_A [(d, .inr (5, [.ref d_st, .ref d_se, .ref d_te, .ref d_sk, .int d_cl, .int d_ln])), (d_st, .inl (k 0, 400, .inl d_stF))] sz)) 0 0 (va_A [(d, .inr (5, [.ref d_st, .ref d_se, .ref d_te, .ref d_sk, .int d_cl, .int d_ln])), (d_st, .inl (k 0, 400, .inl d_stF))] sz) := by
  refine gz_met (cc := cX5_add) (maxL := 2) (ret := none) (by decide) rfl (Nat.le_of_ble_eq_true rfl) ?_
  intro p_ e_ s_ m below_ meth_ c_ ls hx hb hr hml hts hown hlocks hin hP hE hZ hD hA hS
  generalize hAe : va_A [(d, .inr (5, [.ref d_st, .ref d_se, .ref d_te, .ref d_sk, .int d_cl, .int d_ln])), (d_st, .inl (k 0, 400, .inl d_stF))] sz = A at hZ hD hA hS ⊢
  intro hl
  have hl : lv_has ls 2 [(0, .ref d), (1, .int a)] := hl
  have hB_30 : ∀ (g30_0 : Int32) (g30_1 : Nat → Int32) (ls : Array Slot) (H : Heap) (locs : List Loc), gIv 1 400 g30_0 → va_P G vwCl [(d, .inr (5, [.ref d_st, .ref d_se, .ref d_te, .ref d_sk, .int d_cl, .int g30_0])), (d_st, .inl (k 0, 400, .inl g30_1))] H → va_D A [(d, .inr (5, [.ref d_st, .ref d_se, .ref d_te, .ref d_sk, .int d_cl, .int g30_0])), (d_st, .inl (k 0, 400, .inl g30_1))] → va_S A s_.heap H locs → lv_has ls 2 [] → W p_ l e_ (headSpec vs_s_X5_add ({ frames := 0, cells := 0, slots := 0, locals := 0 } : Room)).room s_ m [.ref d, .int a].toArray below_ meth_ c_ H locs 0 0 (MQ below_ (va_Qv (fun u : gS => gIv 1 400 (u.1 1000) ∧ True) (gO G A (fun u : gS => [(d, .inr (5, [.ref d_st, .ref d_se, .ref d_te, .ref d_sk, .int d_cl, .int (u.1 1000)])), (d_st, .inl (k 0, 400, .inl (u.2.1 1000)))])) A) [.ref d, .int a].toArray s_ 0 0 A) (F0 m 30 ls []) := by
    intro g30_0 g30_1 ls H locs b30_0 hP hD hS hl
    have hP9 := hP.sub (ws' := ((fun u : gS => [(d, .inr (5, [.ref d_st, .ref d_se, .ref d_te, .ref d_sk, .int d_cl, .int (u.1 1000)])), (d_st, .inl (k 0, 400, .inl (u.2.1 1000)))]) ((gU (fun _ => 0) 1000 g30_0), (gU (fun _ _ => 0) 1000 g30_1), (fun _ => 0), (fun _ _ => 0), (fun _ => none)))) [0, 1] rfl
    have hD9 := hD.sub (ws' := ((fun u : gS => [(d, .inr (5, [.ref d_st, .ref d_se, .ref d_te, .ref d_sk, .int d_cl, .int (u.1 1000)])), (d_st, .inl (k 0, 400, .inl (u.2.1 1000)))]) ((gU (fun _ => 0) 1000 g30_0), (gU (fun _ _ => 0) 1000 g30_1), (fun _ => 0), (fun _ _ => 0), (fun _ => none)))) [0, 1] (by decide) rfl
    exact W.vret hx hb hr (fun t ht hW => ⟨⟨((gU (fun _ => 0) 1000 g30_0), (gU (fun _ _ => 0) 1000 g30_1), (fun _ => 0), (fun _ _ => 0), (fun _ => none)), rfl, ⟨b30_0, trivial⟩, by rw [ht]; exact hP9, hD9⟩, hS.F ht⟩) hS.2.2 dX5_add_30
  refine lv_aload_n hx hb dX5_add_0 rfl (lv_at hl 0 rfl) ?_
  refine va_get (D := G) (ci := 5) (v := .int d_ln) (C := RX5) (T := TX5) (N := 6) hx hb hts j_s_X5_add_5 hown hE.K hP 0 rfl rfl 5 (by decide) (hts (.fieldLink RX5 29 "GossamerGate$Rule" "length" "I") (List.mem_cons_of_mem _ (List.mem_append_left _ (List.mem_of_getElem? (i := 0) rfl)))) (fun _ h9 => h9) rfl dX5_add_1 ?_
  refine lv_sipush (v := 400) hx hb dX5_add_4 (by decide) ?_
  refine lv_icmp_ge (tgt := 30) hx hb dX5_add_7 (by decide) (fun c_7 => ?_) (fun c_7 => ?_)
  · have h7_d_ln : gIv 400 400 d_ln := gIv_le_r (gIv_of (a := 400) (b := 400) (x := 400) (by decide)) h_d_ln c_7 (by decide)
    exact hB_30 d_ln d_stF ls _ _ (gIv_w (a' := 1) (b' := 400) h7_d_ln (by decide) (by decide)) hP hD hS (lv_sub hl [] rfl)
  · have h7_d_ln : gIv 0 399 d_ln := gIv_lt_l h_d_ln (gIv_of (a := 400) (b := 400) (x := 400) (by decide)) (gz_nle c_7) (by decide)
    refine lv_aload_n hx hb dX5_add_10 rfl (lv_at hl 0 rfl) ?_
    refine va_get (D := G) (ci := 5) (v := .ref d_st) (C := RX5) (T := TX5) (N := 6) hx hb hts j_s_X5_add_5 hown hE.K hP 0 rfl rfl 0 (by decide) (hts (.fieldLink RX5 9 "GossamerGate$Rule" "steps" "[I") (List.mem_cons_of_mem _ (List.mem_append_left _ (List.mem_of_getElem? (i := 1) rfl)))) (fun _ h9 => h9) rfl dX5_add_11 ?_
    refine lv_aload_n hx hb dX5_add_14 rfl (lv_at hl 0 rfl) ?_
    refine va_get (D := G) (ci := 5) (v := .int d_ln) (C := RX5) (T := TX5) (N := 6) hx hb hts j_s_X5_add_5 hown hE.K hP 0 rfl rfl 5 (by decide) (hts (.fieldLink RX5 29 "GossamerGate$Rule" "length" "I") (List.mem_cons_of_mem _ (List.mem_append_left _ (List.mem_of_getElem? (i := 0) rfl)))) (fun _ h9 => h9) rfl dX5_add_15 ?_
    refine lv_iload_n hx hb dX5_add_18 rfl (lv_at hl 1 rfl) ?_
    refine va_iast hx hb hE.K hP hD hS 1 0 rfl rfl (gIv_in (gIv_w h7_d_ln (by decide) (by decide) : gIv 0 399 d_ln) (by decide)) dX5_add_19 (fun H locs hP hD hS => ?_)
    have hP : va_P G vwCl [(d, .inr (5, [.ref d_st, .ref d_se, .ref d_te, .ref d_sk, .int d_cl, .int d_ln])), (d_st, .inl (k 0, 400, .inl (upd d_stF (Int32.toNatClampNeg d_ln) a)))] H := hP
    have hD : va_D A [(d, .inr (5, [.ref d_st, .ref d_se, .ref d_te, .ref d_sk, .int d_cl, .int d_ln])), (d_st, .inl (k 0, 400, .inl (upd d_stF (Int32.toNatClampNeg d_ln) a)))] := hD
    obtain ⟨f_19, ef_19⟩ : ∃ y : Nat → Int32, y = upd d_stF (Int32.toNatClampNeg d_ln) a := ⟨_, rfl⟩
    rw [← ef_19] at hP hD
    have hP : va_P G vwCl [(d, .inr (5, [.ref d_st, .ref d_se, .ref d_te, .ref d_sk, .int d_cl, .int d_ln])), (d_st, .inl (k 0, 400, .inl f_19))] H := hP
    have hD : va_D A [(d, .inr (5, [.ref d_st, .ref d_se, .ref d_te, .ref d_sk, .int d_cl, .int d_ln])), (d_st, .inl (k 0, 400, .inl f_19))] := hD
    refine lv_aload_n hx hb dX5_add_20 rfl (lv_at hl 0 rfl) ?_
    refine lv_dup hx hb dX5_add_21 rfl ?_
    refine va_get (D := G) (ci := 5) (v := .int d_ln) (C := RX5) (T := TX5) (N := 6) hx hb hts j_s_X5_add_5 hown hE.K hP 0 rfl rfl 5 (by decide) (hts (.fieldLink RX5 29 "GossamerGate$Rule" "length" "I") (List.mem_cons_of_mem _ (List.mem_append_left _ (List.mem_of_getElem? (i := 0) rfl)))) (fun _ h9 => h9) rfl dX5_add_22 ?_
    refine lv_iconst (v := 1) hx hb dX5_add_25 (by decide) ?_
    refine lv_iadd hx hb dX5_add_26 ?_
    refine lv_topi (fun x_26 ex_26 => ?_)
    have hx_26 : gIv 1 400 x_26 := gIv_eq (gIv_add h7_d_ln (gIv_of (a := 1) (b := 1) (x := 1) (by decide)) (by decide) (by decide)) ex_26
    have ix_26 : x_26.toInt = d_ln.toInt + 1 := gI_inc ex_26 h7_d_ln (by decide)
    refine va_put (D := G) (ci := 5) (v := .int x_26) (ty := .int) (C := RX5) (T := TX5) (N := 6) hx hb hts j_s_X5_add_5 tyX5 tyX5_ok nmX5 hown hE.K hP hD hS 0 rfl rfl 5 (by decide) (hts (.fieldLink RX5 29 "GossamerGate$Rule" "length" "I") (List.mem_cons_of_mem _ (List.mem_append_left _ (List.mem_of_getElem? (i := 0) rfl)))) (fun _ h9 => h9) rfl (by decide +kernel) rfl rfl (Nat.le_of_ble_eq_true rfl) dX5_add_27 (fun H locs hP hD hS => ?_)
    have hP : va_P G vwCl [(d, .inr (5, [.ref d_st, .ref d_se, .ref d_te, .ref d_sk, .int d_cl, .int x_26])), (d_st, .inl (k 0, 400, .inl f_19))] H := hP
    have hD : va_D A [(d, .inr (5, [.ref d_st, .ref d_se, .ref d_te, .ref d_sk, .int d_cl, .int x_26])), (d_st, .inl (k 0, 400, .inl f_19))] := hD
    exact hB_30 x_26 f_19 ls H locs hx_26 hP hD hS (lv_sub hl [] rfl)
set_option maxHeartbeats 4000000 in
set_option maxRecDepth 100000 in
theorem s_X5_closeClause (l : Launch) (G : va_G) (k : Nat → ClassId) (sa : Nat → Nat) (sz : Nat) (d : Nat) (d_st : Nat) (d_se : Nat) (d_seF : Nat → Int32) (d_te : Nat) (d_teF : Nat → Int32) (d_sk : Nat) (d_cl : Int32) (d_ln : Int32) (a : Int32) (h_d_cl : gIv 0 12 d_cl) (h_d_ln : gIv 0 400 d_ln) (h_a : gIv 0 400 a) (a_d_seF : gAll 0 400 12 d_seF) (a_d_teF : gAll 0 400 12 d_teF) : Met l yX5_closeClause vs_s_X5_closeClause ({ frames := 0, cells := 0, slots := 0, locals := 0 } : Room) (gP G k sa [.ref d, .int a] [(d, .inr (5, [.ref d_st, .ref d_se, .ref d_te, .ref d_sk, .int d_cl, .int d_ln])), (d_se, .inl (k 0, 12, .inl d_seF)), (d_te, .inl (k 0, 12, .inl d_teF))] sz) (va_Qv (fun u : gS => gAll 0 400 12 (u.2.1 1000) ∧ gAll 0 400 12 (u.2.1 1001) ∧ gIv 1 12 (u.1 1000) ∧ True) (gO G (va_A [(d, .inr (5, [.ref d_st, .ref d_se, .ref d_te, .ref d_sk, .int d_cl, .int d_ln])), (d_se, .inl (k 0, 12, .inl d_seF)), (d_te, .inl (k 0, 12, .inl d_teF))] sz) (fun u : gS => [(d, .inr (5, [.ref d_st, .ref d_se, .ref d_te, .ref d_sk, .int (u.1 1000), .int d_ln])), (d_se, .inl (k 0, 12, .inl (u.2.1 1000))), (d_te, .inl (k 0, 12, .inl (u.2.1 1001)))])) (va_A [(d, .inr (5, [.ref d_st, .ref d_se, .ref d_te, .ref d_sk, .int d_cl, .int d_ln])), (d_se, .inl (k 0, 12, .inl d_seF)), (d_te, .inl (k 0, 12, .inl d_teF))] sz)) 0 0 (va_A [(d, .inr (5, [.ref d_st, .ref d_se, .ref d_te, .ref d_sk, .int d_cl, .int d_ln])), (d_se, .inl (k 0, 12, .inl d_seF)), (d_te, .inl (k 0, 12, .inl d_teF))] sz) := by
  refine gz_met (cc := cX5_closeClause) (maxL := 2) (ret := none) (by decide) rfl (Nat.le_of_ble_eq_true rfl) ?_
  intro p_ e_ s_ m below_ meth_ c_ ls hx hb hr hml hts hown hlocks hin hP hE hZ hD hA hS
  generalize hAe : va_A [(d, .inr (5, [.ref d_st, .ref d_se, .ref d_te, .ref d_sk, .int d_cl, .int d_ln])), (d_se, .inl (k 0, 12, .inl d_seF)), (d_te, .inl (k 0, 12, .inl d_teF))] sz = A at hZ hD hA hS ⊢
  intro hl
  have hl : lv_has ls 2 [(0, .ref d), (1, .int a)] := hl
  have hB_42 : ∀ (g42_0 : Int32) (g42_1 : Nat → Int32) (g42_2 : Nat → Int32) (ls : Array Slot) (H : Heap) (locs : List Loc), gIv 1 12 g42_0 → gAll 0 400 12 g42_1 → gAll 0 400 12 g42_2 → va_P G vwCl [(d, .inr (5, [.ref d_st, .ref d_se, .ref d_te, .ref d_sk, .int g42_0, .int d_ln])), (d_se, .inl (k 0, 12, .inl g42_1)), (d_te, .inl (k 0, 12, .inl g42_2))] H → va_D A [(d, .inr (5, [.ref d_st, .ref d_se, .ref d_te, .ref d_sk, .int g42_0, .int d_ln])), (d_se, .inl (k 0, 12, .inl g42_1)), (d_te, .inl (k 0, 12, .inl g42_2))] → va_S A s_.heap H locs → lv_has ls 2 [] → W p_ l e_ (headSpec vs_s_X5_closeClause ({ frames := 0, cells := 0, slots := 0, locals := 0 } : Room)).room s_ m [.ref d, .int a].toArray below_ meth_ c_ H locs 0 0 (MQ below_ (va_Qv (fun u : gS => gAll 0 400 12 (u.2.1 1000) ∧ gAll 0 400 12 (u.2.1 1001) ∧ gIv 1 12 (u.1 1000) ∧ True) (gO G A (fun u : gS => [(d, .inr (5, [.ref d_st, .ref d_se, .ref d_te, .ref d_sk, .int (u.1 1000), .int d_ln])), (d_se, .inl (k 0, 12, .inl (u.2.1 1000))), (d_te, .inl (k 0, 12, .inl (u.2.1 1001)))])) A) [.ref d, .int a].toArray s_ 0 0 A) (F0 m 42 ls []) := by
    intro g42_0 g42_1 g42_2 ls H locs b42_0 b42_1 b42_2 hP hD hS hl
    have hP9 := hP.sub (ws' := ((fun u : gS => [(d, .inr (5, [.ref d_st, .ref d_se, .ref d_te, .ref d_sk, .int (u.1 1000), .int d_ln])), (d_se, .inl (k 0, 12, .inl (u.2.1 1000))), (d_te, .inl (k 0, 12, .inl (u.2.1 1001)))]) ((gU (fun _ => 0) 1000 g42_0), (gU (gU (fun _ _ => 0) 1000 g42_1) 1001 g42_2), (fun _ => 0), (fun _ _ => 0), (fun _ => none)))) [0, 1, 2] rfl
    have hD9 := hD.sub (ws' := ((fun u : gS => [(d, .inr (5, [.ref d_st, .ref d_se, .ref d_te, .ref d_sk, .int (u.1 1000), .int d_ln])), (d_se, .inl (k 0, 12, .inl (u.2.1 1000))), (d_te, .inl (k 0, 12, .inl (u.2.1 1001)))]) ((gU (fun _ => 0) 1000 g42_0), (gU (gU (fun _ _ => 0) 1000 g42_1) 1001 g42_2), (fun _ => 0), (fun _ _ => 0), (fun _ => none)))) [0, 1, 2] (by decide) rfl
    exact W.vret hx hb hr (fun t ht hW => ⟨⟨((gU (fun _ => 0) 1000 g42_0), (gU (gU (fun _ _ => 0) 1000 g42_1) 1001 g42_2), (fun _ => 0), (fun _ _ => 0), (fun _ => none)), rfl, ⟨b42_1, b42_2, b42_0, trivial⟩, by rw [ht]; exact hP9, hD9⟩, hS.F ht⟩) hS.2.2 dX5_closeClause_42
  refine lv_aload_n hx hb dX5_closeClause_0 rfl (lv_at hl 0 rfl) ?_
  refine va_get (D := G) (ci := 5) (v := .int d_cl) (C := RX5) (T := TX5) (N := 6) hx hb hts j_s_X5_closeClause_5 hown hE.K hP 0 rfl rfl 4 (by decide) (hts (.fieldLink RX5 25 "GossamerGate$Rule" "clauses" "I") (List.mem_cons_of_mem _ (List.mem_append_left _ (List.mem_of_getElem? (i := 0) rfl)))) (fun _ h9 => h9) rfl dX5_closeClause_1 ?_
  refine lv_bipush (v := 12) hx hb dX5_closeClause_4 (by decide) ?_
  refine lv_icmp_ge (tgt := 42) hx hb dX5_closeClause_6 (by decide) (fun c_6 => ?_) (fun c_6 => ?_)
  · have h6_d_cl : gIv 12 12 d_cl := gIv_le_r (gIv_of (a := 12) (b := 12) (x := 12) (by decide)) h_d_cl c_6 (by decide)
    exact hB_42 d_cl d_seF d_teF ls _ _ (gIv_w (a' := 1) (b' := 12) h6_d_cl (by decide) (by decide)) a_d_seF a_d_teF hP hD hS (lv_sub hl [] rfl)
  · have h6_d_cl : gIv 0 11 d_cl := gIv_lt_l h_d_cl (gIv_of (a := 12) (b := 12) (x := 12) (by decide)) (gz_nle c_6) (by decide)
    refine lv_aload_n hx hb dX5_closeClause_9 rfl (lv_at hl 0 rfl) ?_
    refine va_get (D := G) (ci := 5) (v := .ref d_se) (C := RX5) (T := TX5) (N := 6) hx hb hts j_s_X5_closeClause_5 hown hE.K hP 0 rfl rfl 1 (by decide) (hts (.fieldLink RX5 15 "GossamerGate$Rule" "sumEnds" "[I") (List.mem_cons_of_mem _ (List.mem_append_left _ (List.mem_of_getElem? (i := 1) rfl)))) (fun _ h9 => h9) rfl dX5_closeClause_10 ?_
    refine lv_aload_n hx hb dX5_closeClause_13 rfl (lv_at hl 0 rfl) ?_
    refine va_get (D := G) (ci := 5) (v := .int d_cl) (C := RX5) (T := TX5) (N := 6) hx hb hts j_s_X5_closeClause_5 hown hE.K hP 0 rfl rfl 4 (by decide) (hts (.fieldLink RX5 25 "GossamerGate$Rule" "clauses" "I") (List.mem_cons_of_mem _ (List.mem_append_left _ (List.mem_of_getElem? (i := 0) rfl)))) (fun _ h9 => h9) rfl dX5_closeClause_14 ?_
    refine lv_iload_n hx hb dX5_closeClause_17 rfl (lv_at hl 1 rfl) ?_
    refine va_iast hx hb hE.K hP hD hS 1 0 rfl rfl (gIv_in (gIv_w h6_d_cl (by decide) (by decide) : gIv 0 11 d_cl) (by decide)) dX5_closeClause_18 (fun H locs hP hD hS => ?_)
    have hP : va_P G vwCl [(d, .inr (5, [.ref d_st, .ref d_se, .ref d_te, .ref d_sk, .int d_cl, .int d_ln])), (d_se, .inl (k 0, 12, .inl (upd d_seF (Int32.toNatClampNeg d_cl) a))), (d_te, .inl (k 0, 12, .inl d_teF))] H := hP
    have hD : va_D A [(d, .inr (5, [.ref d_st, .ref d_se, .ref d_te, .ref d_sk, .int d_cl, .int d_ln])), (d_se, .inl (k 0, 12, .inl (upd d_seF (Int32.toNatClampNeg d_cl) a))), (d_te, .inl (k 0, 12, .inl d_teF))] := hD
    obtain ⟨f_18, ef_18⟩ : ∃ y : Nat → Int32, y = upd d_seF (Int32.toNatClampNeg d_cl) a := ⟨_, rfl⟩
    rw [← ef_18] at hP hD
    have af_18 : gAll 0 400 12 f_18 := by rw [ef_18]; exact gAll_upd a_d_seF h_a
    have hP : va_P G vwCl [(d, .inr (5, [.ref d_st, .ref d_se, .ref d_te, .ref d_sk, .int d_cl, .int d_ln])), (d_se, .inl (k 0, 12, .inl f_18)), (d_te, .inl (k 0, 12, .inl d_teF))] H := hP
    have hD : va_D A [(d, .inr (5, [.ref d_st, .ref d_se, .ref d_te, .ref d_sk, .int d_cl, .int d_ln])), (d_se, .inl (k 0, 12, .inl f_18)), (d_te, .inl (k 0, 12, .inl d_teF))] := hD
    refine lv_aload_n hx hb dX5_closeClause_19 rfl (lv_at hl 0 rfl) ?_
    refine va_get (D := G) (ci := 5) (v := .ref d_te) (C := RX5) (T := TX5) (N := 6) hx hb hts j_s_X5_closeClause_5 hown hE.K hP 0 rfl rfl 2 (by decide) (hts (.fieldLink RX5 18 "GossamerGate$Rule" "testEnds" "[I") (List.mem_cons_of_mem _ (List.mem_append_left _ (List.mem_of_getElem? (i := 2) rfl)))) (fun _ h9 => h9) rfl dX5_closeClause_20 ?_
    refine lv_aload_n hx hb dX5_closeClause_23 rfl (lv_at hl 0 rfl) ?_
    refine va_get (D := G) (ci := 5) (v := .int d_cl) (C := RX5) (T := TX5) (N := 6) hx hb hts j_s_X5_closeClause_5 hown hE.K hP 0 rfl rfl 4 (by decide) (hts (.fieldLink RX5 25 "GossamerGate$Rule" "clauses" "I") (List.mem_cons_of_mem _ (List.mem_append_left _ (List.mem_of_getElem? (i := 0) rfl)))) (fun _ h9 => h9) rfl dX5_closeClause_24 ?_
    refine lv_aload_n hx hb dX5_closeClause_27 rfl (lv_at hl 0 rfl) ?_
    refine va_get (D := G) (ci := 5) (v := .int d_ln) (C := RX5) (T := TX5) (N := 6) hx hb hts j_s_X5_closeClause_5 hown hE.K hP 0 rfl rfl 5 (by decide) (hts (.fieldLink RX5 29 "GossamerGate$Rule" "length" "I") (List.mem_cons_of_mem _ (List.mem_append_left _ (List.mem_of_getElem? (i := 3) rfl)))) (fun _ h9 => h9) rfl dX5_closeClause_28 ?_
    refine va_iast hx hb hE.K hP hD hS 2 0 rfl rfl (gIv_in (gIv_w h6_d_cl (by decide) (by decide) : gIv 0 11 d_cl) (by decide)) dX5_closeClause_31 (fun H locs hP hD hS => ?_)
    have hP : va_P G vwCl [(d, .inr (5, [.ref d_st, .ref d_se, .ref d_te, .ref d_sk, .int d_cl, .int d_ln])), (d_se, .inl (k 0, 12, .inl f_18)), (d_te, .inl (k 0, 12, .inl (upd d_teF (Int32.toNatClampNeg d_cl) d_ln)))] H := hP
    have hD : va_D A [(d, .inr (5, [.ref d_st, .ref d_se, .ref d_te, .ref d_sk, .int d_cl, .int d_ln])), (d_se, .inl (k 0, 12, .inl f_18)), (d_te, .inl (k 0, 12, .inl (upd d_teF (Int32.toNatClampNeg d_cl) d_ln)))] := hD
    obtain ⟨f_31, ef_31⟩ : ∃ y : Nat → Int32, y = upd d_teF (Int32.toNatClampNeg d_cl) d_ln := ⟨_, rfl⟩
    rw [← ef_31] at hP hD
    have af_31 : gAll 0 400 12 f_31 := by rw [ef_31]; exact gAll_upd a_d_teF h_d_ln
    have hP : va_P G vwCl [(d, .inr (5, [.ref d_st, .ref d_se, .ref d_te, .ref d_sk, .int d_cl, .int d_ln])), (d_se, .inl (k 0, 12, .inl f_18)), (d_te, .inl (k 0, 12, .inl f_31))] H := hP
    have hD : va_D A [(d, .inr (5, [.ref d_st, .ref d_se, .ref d_te, .ref d_sk, .int d_cl, .int d_ln])), (d_se, .inl (k 0, 12, .inl f_18)), (d_te, .inl (k 0, 12, .inl f_31))] := hD
    refine lv_aload_n hx hb dX5_closeClause_32 rfl (lv_at hl 0 rfl) ?_
    refine lv_dup hx hb dX5_closeClause_33 rfl ?_
    refine va_get (D := G) (ci := 5) (v := .int d_cl) (C := RX5) (T := TX5) (N := 6) hx hb hts j_s_X5_closeClause_5 hown hE.K hP 0 rfl rfl 4 (by decide) (hts (.fieldLink RX5 25 "GossamerGate$Rule" "clauses" "I") (List.mem_cons_of_mem _ (List.mem_append_left _ (List.mem_of_getElem? (i := 0) rfl)))) (fun _ h9 => h9) rfl dX5_closeClause_34 ?_
    refine lv_iconst (v := 1) hx hb dX5_closeClause_37 (by decide) ?_
    refine lv_iadd hx hb dX5_closeClause_38 ?_
    refine lv_topi (fun x_38 ex_38 => ?_)
    have hx_38 : gIv 1 12 x_38 := gIv_eq (gIv_add h6_d_cl (gIv_of (a := 1) (b := 1) (x := 1) (by decide)) (by decide) (by decide)) ex_38
    have ix_38 : x_38.toInt = d_cl.toInt + 1 := gI_inc ex_38 h6_d_cl (by decide)
    refine va_put (D := G) (ci := 5) (v := .int x_38) (ty := .int) (C := RX5) (T := TX5) (N := 6) hx hb hts j_s_X5_closeClause_5 tyX5 tyX5_ok nmX5 hown hE.K hP hD hS 0 rfl rfl 4 (by decide) (hts (.fieldLink RX5 25 "GossamerGate$Rule" "clauses" "I") (List.mem_cons_of_mem _ (List.mem_append_left _ (List.mem_of_getElem? (i := 0) rfl)))) (fun _ h9 => h9) rfl (by decide +kernel) rfl rfl (Nat.le_of_ble_eq_true rfl) dX5_closeClause_39 (fun H locs hP hD hS => ?_)
    have hP : va_P G vwCl [(d, .inr (5, [.ref d_st, .ref d_se, .ref d_te, .ref d_sk, .int x_38, .int d_ln])), (d_se, .inl (k 0, 12, .inl f_18)), (d_te, .inl (k 0, 12, .inl f_31))] H := hP
    have hD : va_D A [(d, .inr (5, [.ref d_st, .ref d_se, .ref d_te, .ref d_sk, .int x_38, .int d_ln])), (d_se, .inl (k 0, 12, .inl f_18)), (d_te, .inl (k 0, 12, .inl f_31))] := hD
    exact hB_42 x_38 f_18 f_31 ls H locs hx_38 af_18 af_31 hP hD hS (lv_sub hl [] rfl)
set_option maxHeartbeats 4000000 in
set_option maxRecDepth 100000 in
theorem s_X5_copyFrom (l : Launch) (G : va_G) (k : Nat → ClassId) (sa : Nat → Nat) (sz : Nat) (d : Nat) (d_st : Nat) (d_stF : Nat → Int32) (d_se : Nat) (d_seF : Nat → Int32) (d_te : Nat) (d_teF : Nat → Int32) (d_sk : Nat) (d_cl : Int32) (d_ln : Int32) (o : Nat) (o_st : Nat) (o_stF : Nat → Int32) (o_se : Nat) (o_seF : Nat → Int32) (o_te : Nat) (o_teF : Nat → Int32) (o_sk : Nat) (o_cl : Int32) (o_ln : Int32) (h_o_cl : gIv 0 12 o_cl) (h_o_ln : gIv 0 400 o_ln) (a_d_seF : gAll 0 400 12 d_seF) (a_d_teF : gAll 0 400 12 d_teF) (a_o_seF : gAll 0 400 12 o_seF) (a_o_teF : gAll 0 400 12 o_teF) : Met l yX5_copyFrom vs_s_X5_copyFrom ({ frames := 1, cells := 0, slots := 0, locals := 90 } : Room) (gP G k sa [.ref d, .ref o] [(d, .inr (5, [.ref d_st, .ref d_se, .ref d_te, .ref d_sk, .int d_cl, .int d_ln])), (d_st, .inl (k 0, 400, .inl d_stF)), (d_se, .inl (k 0, 12, .inl d_seF)), (d_te, .inl (k 0, 12, .inl d_teF)), (o, .inr (5, [.ref o_st, .ref o_se, .ref o_te, .ref o_sk, .int o_cl, .int o_ln])), (o_st, .inl (k 0, 400, .inl o_stF)), (o_se, .inl (k 0, 12, .inl o_seF)), (o_te, .inl (k 0, 12, .inl o_teF))] sz) (va_Qv (fun u : gS => gAll 0 400 12 (u.2.1 1000) ∧ gAll 0 400 12 (u.2.1 1002) ∧ True) (gO G (va_A [(d, .inr (5, [.ref d_st, .ref d_se, .ref d_te, .ref d_sk, .int d_cl, .int d_ln])), (d_st, .inl (k 0, 400, .inl d_stF)), (d_se, .inl (k 0, 12, .inl d_seF)), (d_te, .inl (k 0, 12, .inl d_teF)), (o, .inr (5, [.ref o_st, .ref o_se, .ref o_te, .ref o_sk, .int o_cl, .int o_ln])), (o_st, .inl (k 0, 400, .inl o_stF)), (o_se, .inl (k 0, 12, .inl o_seF)), (o_te, .inl (k 0, 12, .inl o_teF))] sz) (fun u : gS => [(d, .inr (5, [.ref d_st, .ref d_se, .ref d_te, .ref d_sk, .int o_cl, .int o_ln])), (d_st, .inl (k 0, 400, .inl (u.2.1 1001))), (d_se, .inl (k 0, 12, .inl (u.2.1 1000))), (d_te, .inl (k 0, 12, .inl (u.2.1 1002))), (o, .inr (5, [.ref o_st, .ref o_se, .ref o_te, .ref o_sk, .int o_cl, .int o_ln])), (o_st, .inl (k 0, 400, .inl o_stF)), (o_se, .inl (k 0, 12, .inl o_seF)), (o_te, .inl (k 0, 12, .inl o_teF))])) (va_A [(d, .inr (5, [.ref d_st, .ref d_se, .ref d_te, .ref d_sk, .int d_cl, .int d_ln])), (d_st, .inl (k 0, 400, .inl d_stF)), (d_se, .inl (k 0, 12, .inl d_seF)), (d_te, .inl (k 0, 12, .inl d_teF)), (o, .inr (5, [.ref o_st, .ref o_se, .ref o_te, .ref o_sk, .int o_cl, .int o_ln])), (o_st, .inl (k 0, 400, .inl o_stF)), (o_se, .inl (k 0, 12, .inl o_seF)), (o_te, .inl (k 0, 12, .inl o_teF))] sz)) 0 0 (va_A [(d, .inr (5, [.ref d_st, .ref d_se, .ref d_te, .ref d_sk, .int d_cl, .int d_ln])), (d_st, .inl (k 0, 400, .inl d_stF)), (d_se, .inl (k 0, 12, .inl d_seF)), (d_te, .inl (k 0, 12, .inl d_teF)), (o, .inr (5, [.ref o_st, .ref o_se, .ref o_te, .ref o_sk, .int o_cl, .int o_ln])), (o_st, .inl (k 0, 400, .inl o_stF)), (o_se, .inl (k 0, 12, .inl o_seF)), (o_te, .inl (k 0, 12, .inl o_teF))] sz) := by
  refine gz_met (cc := cX5_copyFrom) (maxL := 2) (ret := none) (by decide) rfl (Nat.le_of_ble_eq_true rfl) ?_
  intro p_ e_ s_ m below_ meth_ c_ ls hx hb hr hml hts hown hlocks hin hP hE hZ hD hA hS
  generalize hAe : va_A [(d, .inr (5, [.ref d_st, .ref d_se, .ref d_te, .ref d_sk, .int d_cl, .int d_ln])), (d_st, .inl (k 0, 400, .inl d_stF)), (d_se, .inl (k 0, 12, .inl d_seF)), (d_te, .inl (k 0, 12, .inl d_teF)), (o, .inr (5, [.ref o_st, .ref o_se, .ref o_te, .ref o_sk, .int o_cl, .int o_ln])), (o_st, .inl (k 0, 400, .inl o_stF)), (o_se, .inl (k 0, 12, .inl o_seF)), (o_te, .inl (k 0, 12, .inl o_teF))] sz = A at hZ hD hA hS ⊢
  intro hl
  have hl : lv_has ls 2 [(0, .ref d), (1, .ref o)] := hl
  refine lv_aload_n hx hb dX5_copyFrom_0 rfl (lv_at hl 0 rfl) ?_
  refine lv_aload_n hx hb dX5_copyFrom_1 rfl (lv_at hl 1 rfl) ?_
  refine va_get (D := G) (ci := 5) (v := .int o_cl) (C := RX5) (T := TX5) (N := 6) hx hb hts j_s_X5_copyFrom_5 hown hE.K hP 4 rfl rfl 4 (by decide) (hts (.fieldLink RX5 25 "GossamerGate$Rule" "clauses" "I") (List.mem_cons_of_mem _ (List.mem_append_left _ (List.mem_of_getElem? (i := 0) rfl)))) (fun _ h9 => h9) rfl dX5_copyFrom_2 ?_
  refine va_put (D := G) (ci := 5) (v := .int o_cl) (ty := .int) (C := RX5) (T := TX5) (N := 6) hx hb hts j_s_X5_copyFrom_5 tyX5 tyX5_ok nmX5 hown hE.K hP hD hS 0 rfl rfl 4 (by decide) (hts (.fieldLink RX5 25 "GossamerGate$Rule" "clauses" "I") (List.mem_cons_of_mem _ (List.mem_append_left _ (List.mem_of_getElem? (i := 0) rfl)))) (fun _ h9 => h9) rfl (by decide +kernel) rfl rfl (Nat.le_of_ble_eq_true rfl) dX5_copyFrom_5 (fun H locs hP hD hS => ?_)
  have hP : va_P G vwCl [(d, .inr (5, [.ref d_st, .ref d_se, .ref d_te, .ref d_sk, .int o_cl, .int d_ln])), (d_st, .inl (k 0, 400, .inl d_stF)), (d_se, .inl (k 0, 12, .inl d_seF)), (d_te, .inl (k 0, 12, .inl d_teF)), (o, .inr (5, [.ref o_st, .ref o_se, .ref o_te, .ref o_sk, .int o_cl, .int o_ln])), (o_st, .inl (k 0, 400, .inl o_stF)), (o_se, .inl (k 0, 12, .inl o_seF)), (o_te, .inl (k 0, 12, .inl o_teF))] H := hP
  have hD : va_D A [(d, .inr (5, [.ref d_st, .ref d_se, .ref d_te, .ref d_sk, .int o_cl, .int d_ln])), (d_st, .inl (k 0, 400, .inl d_stF)), (d_se, .inl (k 0, 12, .inl d_seF)), (d_te, .inl (k 0, 12, .inl d_teF)), (o, .inr (5, [.ref o_st, .ref o_se, .ref o_te, .ref o_sk, .int o_cl, .int o_ln])), (o_st, .inl (k 0, 400, .inl o_stF)), (o_se, .inl (k 0, 12, .inl o_seF)), (o_te, .inl (k 0, 12, .inl o_teF))] := hD
  refine lv_aload_n hx hb dX5_copyFrom_8 rfl (lv_at hl 0 rfl) ?_
  refine lv_aload_n hx hb dX5_copyFrom_9 rfl (lv_at hl 1 rfl) ?_
  refine va_get (D := G) (ci := 5) (v := .int o_ln) (C := RX5) (T := TX5) (N := 6) hx hb hts j_s_X5_copyFrom_5 hown hE.K hP 4 rfl rfl 5 (by decide) (hts (.fieldLink RX5 29 "GossamerGate$Rule" "length" "I") (List.mem_cons_of_mem _ (List.mem_append_left _ (List.mem_of_getElem? (i := 1) rfl)))) (fun _ h9 => h9) rfl dX5_copyFrom_10 ?_
  refine va_put (D := G) (ci := 5) (v := .int o_ln) (ty := .int) (C := RX5) (T := TX5) (N := 6) hx hb hts j_s_X5_copyFrom_5 tyX5 tyX5_ok nmX5 hown hE.K hP hD hS 0 rfl rfl 5 (by decide) (hts (.fieldLink RX5 29 "GossamerGate$Rule" "length" "I") (List.mem_cons_of_mem _ (List.mem_append_left _ (List.mem_of_getElem? (i := 1) rfl)))) (fun _ h9 => h9) rfl (by decide +kernel) rfl rfl (Nat.le_of_ble_eq_true rfl) dX5_copyFrom_13 (fun H locs hP hD hS => ?_)
  have hP : va_P G vwCl [(d, .inr (5, [.ref d_st, .ref d_se, .ref d_te, .ref d_sk, .int o_cl, .int o_ln])), (d_st, .inl (k 0, 400, .inl d_stF)), (d_se, .inl (k 0, 12, .inl d_seF)), (d_te, .inl (k 0, 12, .inl d_teF)), (o, .inr (5, [.ref o_st, .ref o_se, .ref o_te, .ref o_sk, .int o_cl, .int o_ln])), (o_st, .inl (k 0, 400, .inl o_stF)), (o_se, .inl (k 0, 12, .inl o_seF)), (o_te, .inl (k 0, 12, .inl o_teF))] H := hP
  have hD : va_D A [(d, .inr (5, [.ref d_st, .ref d_se, .ref d_te, .ref d_sk, .int o_cl, .int o_ln])), (d_st, .inl (k 0, 400, .inl d_stF)), (d_se, .inl (k 0, 12, .inl d_seF)), (d_te, .inl (k 0, 12, .inl d_teF)), (o, .inr (5, [.ref o_st, .ref o_se, .ref o_te, .ref o_sk, .int o_cl, .int o_ln])), (o_st, .inl (k 0, 400, .inl o_stF)), (o_se, .inl (k 0, 12, .inl o_seF)), (o_te, .inl (k 0, 12, .inl o_teF))] := hD
  refine lv_aload_n hx hb dX5_copyFrom_16 rfl (lv_at hl 1 rfl) ?_
  refine va_get (D := G) (ci := 5) (v := .ref o_st) (C := RX5) (T := TX5) (N := 6) hx hb hts j_s_X5_copyFrom_5 hown hE.K hP 4 rfl rfl 0 (by decide) (hts (.fieldLink RX5 9 "GossamerGate$Rule" "steps" "[I") (List.mem_cons_of_mem _ (List.mem_append_left _ (List.mem_of_getElem? (i := 2) rfl)))) (fun _ h9 => h9) rfl dX5_copyFrom_17 ?_
  refine lv_iconst (v := 0) hx hb dX5_copyFrom_20 (by decide) ?_
  refine lv_aload_n hx hb dX5_copyFrom_21 rfl (lv_at hl 0 rfl) ?_
  refine va_get (D := G) (ci := 5) (v := .ref d_st) (C := RX5) (T := TX5) (N := 6) hx hb hts j_s_X5_copyFrom_5 hown hE.K hP 0 rfl rfl 0 (by decide) (hts (.fieldLink RX5 9 "GossamerGate$Rule" "steps" "[I") (List.mem_cons_of_mem _ (List.mem_append_left _ (List.mem_of_getElem? (i := 2) rfl)))) (fun _ h9 => h9) rfl dX5_copyFrom_22 ?_
  refine lv_iconst (v := 0) hx hb dX5_copyFrom_25 (by decide) ?_
  refine lv_sipush (v := 400) hx hb dX5_copyFrom_26 (by decide) ?_
  refine va_copyi hx hb (hml.trans hl.1.symm) hown (hts (.methodLink RX5 32 arraycopyName) (List.mem_cons_of_mem _ (List.mem_append_left _ (List.mem_of_getElem? (i := 3) rfl)))) (hts (.native arraycopyName) (List.mem_cons_of_mem _ (List.mem_append_left _ (List.mem_of_getElem? (i := 4) rfl)))) (hts (.static arraycopyName) (List.mem_cons_of_mem _ (List.mem_append_left _ (List.mem_of_getElem? (i := 5) rfl)))) (hts (.initialized "java/lang/System") (List.mem_cons_of_mem _ (List.mem_append_left _ (List.mem_of_getElem? (i := 6) rfl)))) hE.K hP hD hS 5 1 0 0 rfl rfl rfl rfl rfl (by decide) (by decide) (by decide) (by decide) (by decide) (fun _ _ => rfl) (Nat.le_of_ble_eq_true rfl) (Nat.le_of_ble_eq_true rfl) dX5_copyFrom_29 (fun H locs hP hD hS => ?_)
  have hP : va_P G vwCl [(d, .inr (5, [.ref d_st, .ref d_se, .ref d_te, .ref d_sk, .int o_cl, .int o_ln])), (d_st, .inl (k 0, 400, .inl (va_cpy o_stF d_stF 0 0 400))), (d_se, .inl (k 0, 12, .inl d_seF)), (d_te, .inl (k 0, 12, .inl d_teF)), (o, .inr (5, [.ref o_st, .ref o_se, .ref o_te, .ref o_sk, .int o_cl, .int o_ln])), (o_st, .inl (k 0, 400, .inl o_stF)), (o_se, .inl (k 0, 12, .inl o_seF)), (o_te, .inl (k 0, 12, .inl o_teF))] H := hP
  have hD : va_D A [(d, .inr (5, [.ref d_st, .ref d_se, .ref d_te, .ref d_sk, .int o_cl, .int o_ln])), (d_st, .inl (k 0, 400, .inl (va_cpy o_stF d_stF 0 0 400))), (d_se, .inl (k 0, 12, .inl d_seF)), (d_te, .inl (k 0, 12, .inl d_teF)), (o, .inr (5, [.ref o_st, .ref o_se, .ref o_te, .ref o_sk, .int o_cl, .int o_ln])), (o_st, .inl (k 0, 400, .inl o_stF)), (o_se, .inl (k 0, 12, .inl o_seF)), (o_te, .inl (k 0, 12, .inl o_teF))] := hD
  obtain ⟨f_29, ef_29⟩ : ∃ y : Nat → Int32, y = va_cpy o_stF d_stF 0 0 400 := ⟨_, rfl⟩
  rw [← ef_29] at hP hD
  have hP : va_P G vwCl [(d, .inr (5, [.ref d_st, .ref d_se, .ref d_te, .ref d_sk, .int o_cl, .int o_ln])), (d_st, .inl (k 0, 400, .inl f_29)), (d_se, .inl (k 0, 12, .inl d_seF)), (d_te, .inl (k 0, 12, .inl d_teF)), (o, .inr (5, [.ref o_st, .ref o_se, .ref o_te, .ref o_sk, .int o_cl, .int o_ln])), (o_st, .inl (k 0, 400, .inl o_stF)), (o_se, .inl (k 0, 12, .inl o_seF)), (o_te, .inl (k 0, 12, .inl o_teF))] H := hP
  have hD : va_D A [(d, .inr (5, [.ref d_st, .ref d_se, .ref d_te, .ref d_sk, .int o_cl, .int o_ln])), (d_st, .inl (k 0, 400, .inl f_29)), (d_se, .inl (k 0, 12, .inl d_seF)), (d_te, .inl (k 0, 12, .inl d_teF)), (o, .inr (5, [.ref o_st, .ref o_se, .ref o_te, .ref o_sk, .int o_cl, .int o_ln])), (o_st, .inl (k 0, 400, .inl o_stF)), (o_se, .inl (k 0, 12, .inl o_seF)), (o_te, .inl (k 0, 12, .inl o_teF))] := hD
  refine lv_aload_n hx hb dX5_copyFrom_32 rfl (lv_at hl 1 rfl) ?_
  refine va_get (D := G) (ci := 5) (v := .ref o_se) (C := RX5) (T := TX5) (N := 6) hx hb hts j_s_X5_copyFrom_5 hown hE.K hP 4 rfl rfl 1 (by decide) (hts (.fieldLink RX5 15 "GossamerGate$Rule" "sumEnds" "[I") (List.mem_cons_of_mem _ (List.mem_append_left _ (List.mem_of_getElem? (i := 7) rfl)))) (fun _ h9 => h9) rfl dX5_copyFrom_33 ?_
  refine lv_iconst (v := 0) hx hb dX5_copyFrom_36 (by decide) ?_
  refine lv_aload_n hx hb dX5_copyFrom_37 rfl (lv_at hl 0 rfl) ?_
  refine va_get (D := G) (ci := 5) (v := .ref d_se) (C := RX5) (T := TX5) (N := 6) hx hb hts j_s_X5_copyFrom_5 hown hE.K hP 0 rfl rfl 1 (by decide) (hts (.fieldLink RX5 15 "GossamerGate$Rule" "sumEnds" "[I") (List.mem_cons_of_mem _ (List.mem_append_left _ (List.mem_of_getElem? (i := 7) rfl)))) (fun _ h9 => h9) rfl dX5_copyFrom_38 ?_
  refine lv_iconst (v := 0) hx hb dX5_copyFrom_41 (by decide) ?_
  refine lv_bipush (v := 12) hx hb dX5_copyFrom_42 (by decide) ?_
  refine va_copyi hx hb (hml.trans hl.1.symm) hown (hts (.methodLink RX5 32 arraycopyName) (List.mem_cons_of_mem _ (List.mem_append_left _ (List.mem_of_getElem? (i := 3) rfl)))) (hts (.native arraycopyName) (List.mem_cons_of_mem _ (List.mem_append_left _ (List.mem_of_getElem? (i := 4) rfl)))) (hts (.static arraycopyName) (List.mem_cons_of_mem _ (List.mem_append_left _ (List.mem_of_getElem? (i := 5) rfl)))) (hts (.initialized "java/lang/System") (List.mem_cons_of_mem _ (List.mem_append_left _ (List.mem_of_getElem? (i := 6) rfl)))) hE.K hP hD hS 6 2 0 0 rfl rfl rfl rfl rfl (by decide) (by decide) (by decide) (by decide) (by decide) (fun _ _ => rfl) (Nat.le_of_ble_eq_true rfl) (Nat.le_of_ble_eq_true rfl) dX5_copyFrom_44 (fun H locs hP hD hS => ?_)
  have hP : va_P G vwCl [(d, .inr (5, [.ref d_st, .ref d_se, .ref d_te, .ref d_sk, .int o_cl, .int o_ln])), (d_st, .inl (k 0, 400, .inl f_29)), (d_se, .inl (k 0, 12, .inl (va_cpy o_seF d_seF 0 0 12))), (d_te, .inl (k 0, 12, .inl d_teF)), (o, .inr (5, [.ref o_st, .ref o_se, .ref o_te, .ref o_sk, .int o_cl, .int o_ln])), (o_st, .inl (k 0, 400, .inl o_stF)), (o_se, .inl (k 0, 12, .inl o_seF)), (o_te, .inl (k 0, 12, .inl o_teF))] H := hP
  have hD : va_D A [(d, .inr (5, [.ref d_st, .ref d_se, .ref d_te, .ref d_sk, .int o_cl, .int o_ln])), (d_st, .inl (k 0, 400, .inl f_29)), (d_se, .inl (k 0, 12, .inl (va_cpy o_seF d_seF 0 0 12))), (d_te, .inl (k 0, 12, .inl d_teF)), (o, .inr (5, [.ref o_st, .ref o_se, .ref o_te, .ref o_sk, .int o_cl, .int o_ln])), (o_st, .inl (k 0, 400, .inl o_stF)), (o_se, .inl (k 0, 12, .inl o_seF)), (o_te, .inl (k 0, 12, .inl o_teF))] := hD
  obtain ⟨f_44, ef_44⟩ : ∃ y : Nat → Int32, y = va_cpy o_seF d_seF 0 0 12 := ⟨_, rfl⟩
  rw [← ef_44] at hP hD
  have af_44 : gAll 0 400 12 f_44 := by rw [ef_44]; exact gAll_cpy (gAll_w a_o_seF (by decide) (by decide)) (gAll_w a_d_seF (by decide) (by decide)) (by decide)
  have hP : va_P G vwCl [(d, .inr (5, [.ref d_st, .ref d_se, .ref d_te, .ref d_sk, .int o_cl, .int o_ln])), (d_st, .inl (k 0, 400, .inl f_29)), (d_se, .inl (k 0, 12, .inl f_44)), (d_te, .inl (k 0, 12, .inl d_teF)), (o, .inr (5, [.ref o_st, .ref o_se, .ref o_te, .ref o_sk, .int o_cl, .int o_ln])), (o_st, .inl (k 0, 400, .inl o_stF)), (o_se, .inl (k 0, 12, .inl o_seF)), (o_te, .inl (k 0, 12, .inl o_teF))] H := hP
  have hD : va_D A [(d, .inr (5, [.ref d_st, .ref d_se, .ref d_te, .ref d_sk, .int o_cl, .int o_ln])), (d_st, .inl (k 0, 400, .inl f_29)), (d_se, .inl (k 0, 12, .inl f_44)), (d_te, .inl (k 0, 12, .inl d_teF)), (o, .inr (5, [.ref o_st, .ref o_se, .ref o_te, .ref o_sk, .int o_cl, .int o_ln])), (o_st, .inl (k 0, 400, .inl o_stF)), (o_se, .inl (k 0, 12, .inl o_seF)), (o_te, .inl (k 0, 12, .inl o_teF))] := hD
  refine lv_aload_n hx hb dX5_copyFrom_47 rfl (lv_at hl 1 rfl) ?_
  refine va_get (D := G) (ci := 5) (v := .ref o_te) (C := RX5) (T := TX5) (N := 6) hx hb hts j_s_X5_copyFrom_5 hown hE.K hP 4 rfl rfl 2 (by decide) (hts (.fieldLink RX5 18 "GossamerGate$Rule" "testEnds" "[I") (List.mem_cons_of_mem _ (List.mem_append_left _ (List.mem_of_getElem? (i := 8) rfl)))) (fun _ h9 => h9) rfl dX5_copyFrom_48 ?_
  refine lv_iconst (v := 0) hx hb dX5_copyFrom_51 (by decide) ?_
  refine lv_aload_n hx hb dX5_copyFrom_52 rfl (lv_at hl 0 rfl) ?_
  refine va_get (D := G) (ci := 5) (v := .ref d_te) (C := RX5) (T := TX5) (N := 6) hx hb hts j_s_X5_copyFrom_5 hown hE.K hP 0 rfl rfl 2 (by decide) (hts (.fieldLink RX5 18 "GossamerGate$Rule" "testEnds" "[I") (List.mem_cons_of_mem _ (List.mem_append_left _ (List.mem_of_getElem? (i := 8) rfl)))) (fun _ h9 => h9) rfl dX5_copyFrom_53 ?_
  refine lv_iconst (v := 0) hx hb dX5_copyFrom_56 (by decide) ?_
  refine lv_bipush (v := 12) hx hb dX5_copyFrom_57 (by decide) ?_
  refine va_copyi hx hb (hml.trans hl.1.symm) hown (hts (.methodLink RX5 32 arraycopyName) (List.mem_cons_of_mem _ (List.mem_append_left _ (List.mem_of_getElem? (i := 3) rfl)))) (hts (.native arraycopyName) (List.mem_cons_of_mem _ (List.mem_append_left _ (List.mem_of_getElem? (i := 4) rfl)))) (hts (.static arraycopyName) (List.mem_cons_of_mem _ (List.mem_append_left _ (List.mem_of_getElem? (i := 5) rfl)))) (hts (.initialized "java/lang/System") (List.mem_cons_of_mem _ (List.mem_append_left _ (List.mem_of_getElem? (i := 6) rfl)))) hE.K hP hD hS 7 3 0 0 rfl rfl rfl rfl rfl (by decide) (by decide) (by decide) (by decide) (by decide) (fun _ _ => rfl) (Nat.le_of_ble_eq_true rfl) (Nat.le_of_ble_eq_true rfl) dX5_copyFrom_59 (fun H locs hP hD hS => ?_)
  have hP : va_P G vwCl [(d, .inr (5, [.ref d_st, .ref d_se, .ref d_te, .ref d_sk, .int o_cl, .int o_ln])), (d_st, .inl (k 0, 400, .inl f_29)), (d_se, .inl (k 0, 12, .inl f_44)), (d_te, .inl (k 0, 12, .inl (va_cpy o_teF d_teF 0 0 12))), (o, .inr (5, [.ref o_st, .ref o_se, .ref o_te, .ref o_sk, .int o_cl, .int o_ln])), (o_st, .inl (k 0, 400, .inl o_stF)), (o_se, .inl (k 0, 12, .inl o_seF)), (o_te, .inl (k 0, 12, .inl o_teF))] H := hP
  have hD : va_D A [(d, .inr (5, [.ref d_st, .ref d_se, .ref d_te, .ref d_sk, .int o_cl, .int o_ln])), (d_st, .inl (k 0, 400, .inl f_29)), (d_se, .inl (k 0, 12, .inl f_44)), (d_te, .inl (k 0, 12, .inl (va_cpy o_teF d_teF 0 0 12))), (o, .inr (5, [.ref o_st, .ref o_se, .ref o_te, .ref o_sk, .int o_cl, .int o_ln])), (o_st, .inl (k 0, 400, .inl o_stF)), (o_se, .inl (k 0, 12, .inl o_seF)), (o_te, .inl (k 0, 12, .inl o_teF))] := hD
  obtain ⟨f_59, ef_59⟩ : ∃ y : Nat → Int32, y = va_cpy o_teF d_teF 0 0 12 := ⟨_, rfl⟩
  rw [← ef_59] at hP hD
  have af_59 : gAll 0 400 12 f_59 := by rw [ef_59]; exact gAll_cpy (gAll_w a_o_teF (by decide) (by decide)) (gAll_w a_d_teF (by decide) (by decide)) (by decide)
  have hP : va_P G vwCl [(d, .inr (5, [.ref d_st, .ref d_se, .ref d_te, .ref d_sk, .int o_cl, .int o_ln])), (d_st, .inl (k 0, 400, .inl f_29)), (d_se, .inl (k 0, 12, .inl f_44)), (d_te, .inl (k 0, 12, .inl f_59)), (o, .inr (5, [.ref o_st, .ref o_se, .ref o_te, .ref o_sk, .int o_cl, .int o_ln])), (o_st, .inl (k 0, 400, .inl o_stF)), (o_se, .inl (k 0, 12, .inl o_seF)), (o_te, .inl (k 0, 12, .inl o_teF))] H := hP
  have hD : va_D A [(d, .inr (5, [.ref d_st, .ref d_se, .ref d_te, .ref d_sk, .int o_cl, .int o_ln])), (d_st, .inl (k 0, 400, .inl f_29)), (d_se, .inl (k 0, 12, .inl f_44)), (d_te, .inl (k 0, 12, .inl f_59)), (o, .inr (5, [.ref o_st, .ref o_se, .ref o_te, .ref o_sk, .int o_cl, .int o_ln])), (o_st, .inl (k 0, 400, .inl o_stF)), (o_se, .inl (k 0, 12, .inl o_seF)), (o_te, .inl (k 0, 12, .inl o_teF))] := hD
  have hP9 := hP.sub (ws' := ((fun u : gS => [(d, .inr (5, [.ref d_st, .ref d_se, .ref d_te, .ref d_sk, .int o_cl, .int o_ln])), (d_st, .inl (k 0, 400, .inl (u.2.1 1001))), (d_se, .inl (k 0, 12, .inl (u.2.1 1000))), (d_te, .inl (k 0, 12, .inl (u.2.1 1002))), (o, .inr (5, [.ref o_st, .ref o_se, .ref o_te, .ref o_sk, .int o_cl, .int o_ln])), (o_st, .inl (k 0, 400, .inl o_stF)), (o_se, .inl (k 0, 12, .inl o_seF)), (o_te, .inl (k 0, 12, .inl o_teF))]) ((fun _ => 0), (gU (gU (gU (fun _ _ => 0) 1000 f_44) 1001 f_29) 1002 f_59), (fun _ => 0), (fun _ _ => 0), (fun _ => none)))) [0, 1, 2, 3, 4, 5, 6, 7] rfl
  have hD9 := hD.sub (ws' := ((fun u : gS => [(d, .inr (5, [.ref d_st, .ref d_se, .ref d_te, .ref d_sk, .int o_cl, .int o_ln])), (d_st, .inl (k 0, 400, .inl (u.2.1 1001))), (d_se, .inl (k 0, 12, .inl (u.2.1 1000))), (d_te, .inl (k 0, 12, .inl (u.2.1 1002))), (o, .inr (5, [.ref o_st, .ref o_se, .ref o_te, .ref o_sk, .int o_cl, .int o_ln])), (o_st, .inl (k 0, 400, .inl o_stF)), (o_se, .inl (k 0, 12, .inl o_seF)), (o_te, .inl (k 0, 12, .inl o_teF))]) ((fun _ => 0), (gU (gU (gU (fun _ _ => 0) 1000 f_44) 1001 f_29) 1002 f_59), (fun _ => 0), (fun _ _ => 0), (fun _ => none)))) [0, 1, 2, 3, 4, 5, 6, 7] (by decide) rfl
  exact W.vret hx hb hr (fun t ht hW => ⟨⟨((fun _ => 0), (gU (gU (gU (fun _ _ => 0) 1000 f_44) 1001 f_29) 1002 f_59), (fun _ => 0), (fun _ _ => 0), (fun _ => none)), rfl, ⟨af_44, af_59, trivial⟩, by rw [ht]; exact hP9, hD9⟩, hS.F ht⟩) hS.2.2 dX5_copyFrom_62
set_option maxHeartbeats 4000000 in
set_option maxRecDepth 100000 in
theorem s_X5_wordOf (l : Launch) (G : va_G) (k : Nat → ClassId) (sa : Nat → Nat) (a : Int32) (wo : Nat) (woF : Nat → Int64) : Met l yX5_wordOf vs_s_X5_wordOf ({ frames := 0, cells := 0, slots := 0, locals := 0 } : Room) (gR G k sa [.int a, .ref wo] [(wo, .inl (k 1, 12, .inr (.inl woF)))]) (vp_Sl (fun r => True)) 0 0 (fun _ => False) := by
  refine gz_metR (cc := cX5_wordOf) (maxL := 2) (ret := (some .long)) (by decide) rfl (Nat.le_of_ble_eq_true rfl) ?_
  intro p_ e_ s_ m below_ meth_ c_ ls hx hb hr hml hts hown hlocks hP hE hZ hS hl
  have hl : lv_has ls 2 [(0, .int a), (1, .ref wo)] := hl
  have hB_17 : ∀ (g17_0 : Int64) (ls : Array Slot), lv_has ls 2 [] → W p_ l e_ (headSpec vs_s_X5_wordOf ({ frames := 0, cells := 0, slots := 0, locals := 0 } : Room)).room s_ m [.int a, .ref wo].toArray below_ meth_ c_ s_.heap [] 0 0 (MQ below_ (vp_Sl (fun r => True)) [.int a, .ref wo].toArray s_ 0 0 (fun _ => False)) (F0 m 17 ls [.long g17_0]) := by
    intro g17_0 ls  hl
    exact W.lret (v := g17_0) hx hb hr (fun t ht hW => ⟨g17_0, rfl, trivial, ht⟩) (fun _ h9 => absurd h9 List.not_mem_nil) dX5_wordOf_17
  have hB_16 : ∀ (ls : Array Slot), lv_has ls 2 [] → W p_ l e_ (headSpec vs_s_X5_wordOf ({ frames := 0, cells := 0, slots := 0, locals := 0 } : Room)).room s_ m [.int a, .ref wo].toArray below_ meth_ c_ s_.heap [] 0 0 (MQ below_ (vp_Sl (fun r => True)) [.int a, .ref wo].toArray s_ 0 0 (fun _ => False)) (F0 m 16 ls []) := by
    intro  ls  hl
    refine lv_lconst (v := 0) hx hb dX5_wordOf_16 (by decide) ?_
    exact hB_17 0 ls  (lv_sub hl [] rfl)
  refine lv_iload_n hx hb dX5_wordOf_0 rfl (lv_at hl 0 rfl) ?_
  refine lv_if_lt (tgt := 16) hx hb dX5_wordOf_1 (by decide) (fun c_1 => ?_) (fun c_1 => ?_)
  · have h1_a : gIv (-2147483648) (-1) a := gIv_lt_l (gIv_any a) (gIv_of (a := 0) (b := 0) (x := 0) (by decide)) c_1 (by decide)
    exact hB_16  ls  (lv_sub hl [] rfl)
  · have h1_a : gIv 0 2147483647 a := gIv_le_r (gIv_of (a := 0) (b := 0) (x := 0) (by decide)) (gIv_any a) (gz_nlt c_1) (by decide)
    refine lv_iload_n hx hb dX5_wordOf_4 rfl (lv_at hl 0 rfl) ?_
    refine lv_aload_n hx hb dX5_wordOf_5 rfl (lv_at hl 1 rfl) ?_
    refine va_alen (v := 12) hx hb hE.K hP 0 1 rfl rfl rfl dX5_wordOf_6 ?_
    refine lv_icmp_ge (tgt := 16) hx hb dX5_wordOf_7 (by decide) (fun c_7 => ?_) (fun c_7 => ?_)
    · have h7_a : gIv 12 2147483647 a := gIv_le_r (gIv_of (a := 12) (b := 12) (x := 12) (by decide)) h1_a c_7 (by decide)
      exact hB_16  ls  (lv_sub hl [] rfl)
    · have h7_a : gIv 0 11 a := gIv_lt_l h1_a (gIv_of (a := 12) (b := 12) (x := 12) (by decide)) (gz_nle c_7) (by decide)
      refine lv_aload_n hx hb dX5_wordOf_10 rfl (lv_at hl 1 rfl) ?_
      refine lv_iload_n hx hb dX5_wordOf_11 rfl (lv_at hl 0 rfl) ?_
      refine va_lald hx hb hE.K hP 0 1 rfl rfl (gIv_in (gIv_w h7_a (by decide) (by decide) : gIv 0 11 a) (by decide)) dX5_wordOf_12 ?_
      refine lv_topl (fun x_12 ex_12 => ?_)
      refine lv_goto (tgt := 17) hx hb dX5_wordOf_13 (by decide) ?_
      exact hB_17 x_12 ls  (lv_sub hl [] rfl)
set_option maxHeartbeats 4000000 in
set_option maxRecDepth 100000 in
theorem s_X5_joined (l : Launch) (G : va_G) (k : Nat → ClassId) (sa : Nat → Nat) (a : Int32) (x : Int64) (y : Int64) : Met l yX5_joined vs_s_X5_joined ({ frames := 0, cells := 0, slots := 0, locals := 0 } : Room) (gR G k sa [.int a, .long x, .long y] []) (vp_Sl (fun r => True)) 0 0 (fun _ => False) := by
  refine gz_metR (cc := cX5_joined) (maxL := 5) (ret := (some .long)) (by decide) rfl (Nat.le_of_ble_eq_true rfl) ?_
  intro p_ e_ s_ m below_ meth_ c_ ls hx hb hr hml hts hown hlocks hP hE hZ hS hl
  have hl : lv_has ls 5 [(0, .int a), (1, .long x), (3, .long y)] := hl
  have hB_85 : ∀ (g85_0 : Int64) (ls : Array Slot), lv_has ls 5 [] → W p_ l e_ (headSpec vs_s_X5_joined ({ frames := 0, cells := 0, slots := 0, locals := 0 } : Room)).room s_ m [.int a, .long x, .long y].toArray below_ meth_ c_ s_.heap [] 0 0 (MQ below_ (vp_Sl (fun r => True)) [.int a, .long x, .long y].toArray s_ 0 0 (fun _ => False)) (F0 m 85 ls [.long g85_0]) := by
    intro g85_0 ls  hl
    exact W.lret (v := g85_0) hx hb hr (fun t ht hW => ⟨g85_0, rfl, trivial, ht⟩) (fun _ h9 => absurd h9 List.not_mem_nil) dX5_joined_85
  have hB_99 : ∀ (g99_0 : Int64) (ls : Array Slot), lv_has ls 5 [] → W p_ l e_ (headSpec vs_s_X5_joined ({ frames := 0, cells := 0, slots := 0, locals := 0 } : Room)).room s_ m [.int a, .long x, .long y].toArray below_ meth_ c_ s_.heap [] 0 0 (MQ below_ (vp_Sl (fun r => True)) [.int a, .long x, .long y].toArray s_ 0 0 (fun _ => False)) (F0 m 99 ls [.long g99_0]) := by
    intro g99_0 ls  hl
    exact W.lret (v := g99_0) hx hb hr (fun t ht hW => ⟨g99_0, rfl, trivial, ht⟩) (fun _ h9 => absurd h9 List.not_mem_nil) dX5_joined_99
  have hB_111 : ∀ (g111_0 : Int64) (ls : Array Slot), lv_has ls 5 [] → W p_ l e_ (headSpec vs_s_X5_joined ({ frames := 0, cells := 0, slots := 0, locals := 0 } : Room)).room s_ m [.int a, .long x, .long y].toArray below_ meth_ c_ s_.heap [] 0 0 (MQ below_ (vp_Sl (fun r => True)) [.int a, .long x, .long y].toArray s_ 0 0 (fun _ => False)) (F0 m 111 ls [.long g111_0]) := by
    intro g111_0 ls  hl
    exact W.lret (v := g111_0) hx hb hr (fun t ht hW => ⟨g111_0, rfl, trivial, ht⟩) (fun _ h9 => absurd h9 List.not_mem_nil) dX5_joined_111
  have hB_123 : ∀ (g123_0 : Int64) (ls : Array Slot), lv_has ls 5 [] → W p_ l e_ (headSpec vs_s_X5_joined ({ frames := 0, cells := 0, slots := 0, locals := 0 } : Room)).room s_ m [.int a, .long x, .long y].toArray below_ meth_ c_ s_.heap [] 0 0 (MQ below_ (vp_Sl (fun r => True)) [.int a, .long x, .long y].toArray s_ 0 0 (fun _ => False)) (F0 m 123 ls [.long g123_0]) := by
    intro g123_0 ls  hl
    exact W.lret (v := g123_0) hx hb hr (fun t ht hW => ⟨g123_0, rfl, trivial, ht⟩) (fun _ h9 => absurd h9 List.not_mem_nil) dX5_joined_123
  have hB_135 : ∀ (g135_0 : Int64) (ls : Array Slot), lv_has ls 5 [] → W p_ l e_ (headSpec vs_s_X5_joined ({ frames := 0, cells := 0, slots := 0, locals := 0 } : Room)).room s_ m [.int a, .long x, .long y].toArray below_ meth_ c_ s_.heap [] 0 0 (MQ below_ (vp_Sl (fun r => True)) [.int a, .long x, .long y].toArray s_ 0 0 (fun _ => False)) (F0 m 135 ls [.long g135_0]) := by
    intro g135_0 ls  hl
    exact W.lret (v := g135_0) hx hb hr (fun t ht hW => ⟨g135_0, rfl, trivial, ht⟩) (fun _ h9 => absurd h9 List.not_mem_nil) dX5_joined_135
  have hB_147 : ∀ (g147_0 : Int64) (ls : Array Slot), lv_has ls 5 [] → W p_ l e_ (headSpec vs_s_X5_joined ({ frames := 0, cells := 0, slots := 0, locals := 0 } : Room)).room s_ m [.int a, .long x, .long y].toArray below_ meth_ c_ s_.heap [] 0 0 (MQ below_ (vp_Sl (fun r => True)) [.int a, .long x, .long y].toArray s_ 0 0 (fun _ => False)) (F0 m 147 ls [.long g147_0]) := by
    intro g147_0 ls  hl
    exact W.lret (v := g147_0) hx hb hr (fun t ht hW => ⟨g147_0, rfl, trivial, ht⟩) (fun _ h9 => absurd h9 List.not_mem_nil) dX5_joined_147
  have hB_159 : ∀ (g159_0 : Int64) (ls : Array Slot), lv_has ls 5 [] → W p_ l e_ (headSpec vs_s_X5_joined ({ frames := 0, cells := 0, slots := 0, locals := 0 } : Room)).room s_ m [.int a, .long x, .long y].toArray below_ meth_ c_ s_.heap [] 0 0 (MQ below_ (vp_Sl (fun r => True)) [.int a, .long x, .long y].toArray s_ 0 0 (fun _ => False)) (F0 m 159 ls [.long g159_0]) := by
    intro g159_0 ls  hl
    exact W.lret (v := g159_0) hx hb hr (fun t ht hW => ⟨g159_0, rfl, trivial, ht⟩) (fun _ h9 => absurd h9 List.not_mem_nil) dX5_joined_159
  refine lv_iload_n hx hb dX5_joined_0 rfl (lv_at hl 0 rfl) ?_
  rcases gz_tab_200000_200010 a with c_1 | q_1 | q_1 | q_1 | q_1 | q_1 | q_1 | q_1 | q_1 | q_1 | q_1 | q_1
  · refine lv_tableOut (tgt := 164) hx hb dX5_joined_1 c_1 (by decide) ?_
    refine lv_lload_n hx hb dX5_joined_164 rfl (lv_at hl 1 rfl) ?_
    refine lv_lload_n hx hb dX5_joined_165 rfl (lv_at hl 2 rfl) ?_
    refine lv_lor hx hb dX5_joined_166 ?_
    refine lv_topl (fun x_166 ex_166 => ?_)
    exact W.lret (v := x_166) hx hb hr (fun t ht hW => ⟨x_166, rfl, trivial, ht⟩) (fun _ h9 => absurd h9 List.not_mem_nil) dX5_joined_167
  · refine gz_ni q_1 ?_
    refine lv_tableIn (off := 59) (tgt := 60) hx hb dX5_joined_1 (by decide) (by decide) (by decide) (by decide) ?_
    have h1_200000_a : gIv 200000 200000 a := gIv_eqc (gIv_any a) (gIv_of (a := 200000) (b := 200000) (x := 200000) (by decide)) q_1 (by decide)
    refine lv_lload_n hx hb dX5_joined_60 rfl (lv_at hl 1 rfl) ?_
    refine lv_lload_n hx hb dX5_joined_61 rfl (lv_at hl 2 rfl) ?_
    refine lv_ladd hx hb dX5_joined_62 ?_
    refine lv_topl (fun x_62 ex_62 => ?_)
    exact W.lret (v := x_62) hx hb hr (fun t ht hW => ⟨x_62, rfl, trivial, ht⟩) (fun _ h9 => absurd h9 List.not_mem_nil) dX5_joined_63
  · refine gz_ni q_1 ?_
    refine lv_tableIn (off := 63) (tgt := 64) hx hb dX5_joined_1 (by decide) (by decide) (by decide) (by decide) ?_
    have h1_200001_a : gIv 200001 200001 a := gIv_eqc (gIv_any a) (gIv_of (a := 200001) (b := 200001) (x := 200001) (by decide)) q_1 (by decide)
    refine lv_lload_n hx hb dX5_joined_64 rfl (lv_at hl 1 rfl) ?_
    refine lv_lload_n hx hb dX5_joined_65 rfl (lv_at hl 2 rfl) ?_
    refine lv_lsub hx hb dX5_joined_66 ?_
    refine lv_topl (fun x_66 ex_66 => ?_)
    exact W.lret (v := x_66) hx hb hr (fun t ht hW => ⟨x_66, rfl, trivial, ht⟩) (fun _ h9 => absurd h9 List.not_mem_nil) dX5_joined_67
  · refine gz_ni q_1 ?_
    refine lv_tableIn (off := 67) (tgt := 68) hx hb dX5_joined_1 (by decide) (by decide) (by decide) (by decide) ?_
    have h1_200002_a : gIv 200002 200002 a := gIv_eqc (gIv_any a) (gIv_of (a := 200002) (b := 200002) (x := 200002) (by decide)) q_1 (by decide)
    refine lv_lload_n hx hb dX5_joined_68 rfl (lv_at hl 1 rfl) ?_
    refine lv_lload_n hx hb dX5_joined_69 rfl (lv_at hl 2 rfl) ?_
    refine lv_lmul hx hb dX5_joined_70 ?_
    refine lv_topl (fun x_70 ex_70 => ?_)
    exact W.lret (v := x_70) hx hb hr (fun t ht hW => ⟨x_70, rfl, trivial, ht⟩) (fun _ h9 => absurd h9 List.not_mem_nil) dX5_joined_71
  · refine gz_ni q_1 ?_
    refine lv_tableIn (off := 71) (tgt := 72) hx hb dX5_joined_1 (by decide) (by decide) (by decide) (by decide) ?_
    have h1_200003_a : gIv 200003 200003 a := gIv_eqc (gIv_any a) (gIv_of (a := 200003) (b := 200003) (x := 200003) (by decide)) q_1 (by decide)
    refine lv_lload_n hx hb dX5_joined_72 rfl (lv_at hl 2 rfl) ?_
    refine lv_lconst (v := 0) hx hb dX5_joined_73 (by decide) ?_
    refine W.lcmp hx hb dX5_joined_74 ?_
    refine lv_topi (fun x_74 ex_74 => ?_)
    have hx_74 : gIv (-1) 1 x_74 := gIv_eq (gIv_cmp _ _) ex_74
    refine lv_if_ne (tgt := 82) hx hb dX5_joined_75 (by decide) (fun c_75 => ?_) (fun c_75 => ?_)
    · refine lv_lload_n hx hb dX5_joined_82 rfl (lv_at hl 1 rfl) ?_
      refine lv_lload_n hx hb dX5_joined_83 rfl (lv_at hl 2 rfl) ?_
      refine lv_ldiv hx hb dX5_joined_84 (gz_cmp0 ex_74 c_75) ?_
      refine lv_topl (fun x_84 ex_84 => ?_)
      exact hB_85 x_84 ls  (lv_sub hl [] rfl)
    · have h75_x_74 : gIv 0 0 x_74 := gIv_eqc hx_74 (gIv_of (a := 0) (b := 0) (x := 0) (by decide)) c_75 (by decide)
      refine lv_lconst (v := 0) hx hb dX5_joined_78 (by decide) ?_
      refine lv_goto (tgt := 85) hx hb dX5_joined_79 (by decide) ?_
      exact hB_85 0 ls  (lv_sub hl [] rfl)
  · refine gz_ni q_1 ?_
    refine lv_tableIn (off := 85) (tgt := 86) hx hb dX5_joined_1 (by decide) (by decide) (by decide) (by decide) ?_
    have h1_200004_a : gIv 200004 200004 a := gIv_eqc (gIv_any a) (gIv_of (a := 200004) (b := 200004) (x := 200004) (by decide)) q_1 (by decide)
    refine lv_lload_n hx hb dX5_joined_86 rfl (lv_at hl 2 rfl) ?_
    refine lv_lconst (v := 0) hx hb dX5_joined_87 (by decide) ?_
    refine W.lcmp hx hb dX5_joined_88 ?_
    refine lv_topi (fun x_88 ex_88 => ?_)
    have hx_88 : gIv (-1) 1 x_88 := gIv_eq (gIv_cmp _ _) ex_88
    refine lv_if_ne (tgt := 96) hx hb dX5_joined_89 (by decide) (fun c_89 => ?_) (fun c_89 => ?_)
    · refine lv_lload_n hx hb dX5_joined_96 rfl (lv_at hl 1 rfl) ?_
      refine lv_lload_n hx hb dX5_joined_97 rfl (lv_at hl 2 rfl) ?_
      refine lv_lrem hx hb dX5_joined_98 (gz_cmp0 ex_88 c_89) ?_
      refine lv_topl (fun x_98 ex_98 => ?_)
      exact hB_99 x_98 ls  (lv_sub hl [] rfl)
    · have h89_x_88 : gIv 0 0 x_88 := gIv_eqc hx_88 (gIv_of (a := 0) (b := 0) (x := 0) (by decide)) c_89 (by decide)
      refine lv_lconst (v := 0) hx hb dX5_joined_92 (by decide) ?_
      refine lv_goto (tgt := 99) hx hb dX5_joined_93 (by decide) ?_
      exact hB_99 0 ls  (lv_sub hl [] rfl)
  · refine gz_ni q_1 ?_
    refine lv_tableIn (off := 99) (tgt := 100) hx hb dX5_joined_1 (by decide) (by decide) (by decide) (by decide) ?_
    have h1_200005_a : gIv 200005 200005 a := gIv_eqc (gIv_any a) (gIv_of (a := 200005) (b := 200005) (x := 200005) (by decide)) q_1 (by decide)
    refine lv_lload_n hx hb dX5_joined_100 rfl (lv_at hl 1 rfl) ?_
    refine lv_lload_n hx hb dX5_joined_101 rfl (lv_at hl 2 rfl) ?_
    refine W.lcmp hx hb dX5_joined_102 ?_
    refine lv_topi (fun x_102 ex_102 => ?_)
    have hx_102 : gIv (-1) 1 x_102 := gIv_eq (gIv_cmp _ _) ex_102
    refine lv_if_ge (tgt := 110) hx hb dX5_joined_103 (by decide) (fun c_103 => ?_) (fun c_103 => ?_)
    · have h103_x_102 : gIv 0 1 x_102 := gIv_le_r (gIv_of (a := 0) (b := 0) (x := 0) (by decide)) hx_102 c_103 (by decide)
      refine lv_lconst (v := 0) hx hb dX5_joined_110 (by decide) ?_
      exact hB_111 0 ls  (lv_sub hl [] rfl)
    · have h103_x_102 : gIv (-1) (-1) x_102 := gIv_lt_l hx_102 (gIv_of (a := 0) (b := 0) (x := 0) (by decide)) (gz_nle c_103) (by decide)
      refine lv_lconst (v := 1) hx hb dX5_joined_106 (by decide) ?_
      refine lv_goto (tgt := 111) hx hb dX5_joined_107 (by decide) ?_
      exact hB_111 1 ls  (lv_sub hl [] rfl)
  · refine gz_ni q_1 ?_
    refine lv_tableIn (off := 111) (tgt := 112) hx hb dX5_joined_1 (by decide) (by decide) (by decide) (by decide) ?_
    have h1_200006_a : gIv 200006 200006 a := gIv_eqc (gIv_any a) (gIv_of (a := 200006) (b := 200006) (x := 200006) (by decide)) q_1 (by decide)
    refine lv_lload_n hx hb dX5_joined_112 rfl (lv_at hl 1 rfl) ?_
    refine lv_lload_n hx hb dX5_joined_113 rfl (lv_at hl 2 rfl) ?_
    refine W.lcmp hx hb dX5_joined_114 ?_
    refine lv_topi (fun x_114 ex_114 => ?_)
    have hx_114 : gIv (-1) 1 x_114 := gIv_eq (gIv_cmp _ _) ex_114
    refine lv_if_gt (tgt := 122) hx hb dX5_joined_115 (by decide) (fun c_115 => ?_) (fun c_115 => ?_)
    · have h115_x_114 : gIv 1 1 x_114 := gIv_lt_r (gIv_of (a := 0) (b := 0) (x := 0) (by decide)) hx_114 c_115 (by decide)
      refine lv_lconst (v := 0) hx hb dX5_joined_122 (by decide) ?_
      exact hB_123 0 ls  (lv_sub hl [] rfl)
    · have h115_x_114 : gIv (-1) 0 x_114 := gIv_le_l hx_114 (gIv_of (a := 0) (b := 0) (x := 0) (by decide)) (gz_nlt c_115) (by decide)
      refine lv_lconst (v := 1) hx hb dX5_joined_118 (by decide) ?_
      refine lv_goto (tgt := 123) hx hb dX5_joined_119 (by decide) ?_
      exact hB_123 1 ls  (lv_sub hl [] rfl)
  · refine gz_ni q_1 ?_
    refine lv_tableIn (off := 123) (tgt := 124) hx hb dX5_joined_1 (by decide) (by decide) (by decide) (by decide) ?_
    have h1_200007_a : gIv 200007 200007 a := gIv_eqc (gIv_any a) (gIv_of (a := 200007) (b := 200007) (x := 200007) (by decide)) q_1 (by decide)
    refine lv_lload_n hx hb dX5_joined_124 rfl (lv_at hl 1 rfl) ?_
    refine lv_lload_n hx hb dX5_joined_125 rfl (lv_at hl 2 rfl) ?_
    refine W.lcmp hx hb dX5_joined_126 ?_
    refine lv_topi (fun x_126 ex_126 => ?_)
    have hx_126 : gIv (-1) 1 x_126 := gIv_eq (gIv_cmp _ _) ex_126
    refine lv_if_ne (tgt := 134) hx hb dX5_joined_127 (by decide) (fun c_127 => ?_) (fun c_127 => ?_)
    · refine lv_lconst (v := 0) hx hb dX5_joined_134 (by decide) ?_
      exact hB_135 0 ls  (lv_sub hl [] rfl)
    · have h127_x_126 : gIv 0 0 x_126 := gIv_eqc hx_126 (gIv_of (a := 0) (b := 0) (x := 0) (by decide)) c_127 (by decide)
      refine lv_lconst (v := 1) hx hb dX5_joined_130 (by decide) ?_
      refine lv_goto (tgt := 135) hx hb dX5_joined_131 (by decide) ?_
      exact hB_135 1 ls  (lv_sub hl [] rfl)
  · refine gz_ni q_1 ?_
    refine lv_tableIn (off := 135) (tgt := 136) hx hb dX5_joined_1 (by decide) (by decide) (by decide) (by decide) ?_
    have h1_200008_a : gIv 200008 200008 a := gIv_eqc (gIv_any a) (gIv_of (a := 200008) (b := 200008) (x := 200008) (by decide)) q_1 (by decide)
    refine lv_lload_n hx hb dX5_joined_136 rfl (lv_at hl 1 rfl) ?_
    refine lv_lload_n hx hb dX5_joined_137 rfl (lv_at hl 2 rfl) ?_
    refine W.lcmp hx hb dX5_joined_138 ?_
    refine lv_topi (fun x_138 ex_138 => ?_)
    have hx_138 : gIv (-1) 1 x_138 := gIv_eq (gIv_cmp _ _) ex_138
    refine lv_if_lt (tgt := 146) hx hb dX5_joined_139 (by decide) (fun c_139 => ?_) (fun c_139 => ?_)
    · have h139_x_138 : gIv (-1) (-1) x_138 := gIv_lt_l hx_138 (gIv_of (a := 0) (b := 0) (x := 0) (by decide)) c_139 (by decide)
      refine lv_lconst (v := 0) hx hb dX5_joined_146 (by decide) ?_
      exact hB_147 0 ls  (lv_sub hl [] rfl)
    · have h139_x_138 : gIv 0 1 x_138 := gIv_le_r (gIv_of (a := 0) (b := 0) (x := 0) (by decide)) hx_138 (gz_nlt c_139) (by decide)
      refine lv_lconst (v := 1) hx hb dX5_joined_142 (by decide) ?_
      refine lv_goto (tgt := 147) hx hb dX5_joined_143 (by decide) ?_
      exact hB_147 1 ls  (lv_sub hl [] rfl)
  · refine gz_ni q_1 ?_
    refine lv_tableIn (off := 147) (tgt := 148) hx hb dX5_joined_1 (by decide) (by decide) (by decide) (by decide) ?_
    have h1_200009_a : gIv 200009 200009 a := gIv_eqc (gIv_any a) (gIv_of (a := 200009) (b := 200009) (x := 200009) (by decide)) q_1 (by decide)
    refine lv_lload_n hx hb dX5_joined_148 rfl (lv_at hl 1 rfl) ?_
    refine lv_lload_n hx hb dX5_joined_149 rfl (lv_at hl 2 rfl) ?_
    refine W.lcmp hx hb dX5_joined_150 ?_
    refine lv_topi (fun x_150 ex_150 => ?_)
    have hx_150 : gIv (-1) 1 x_150 := gIv_eq (gIv_cmp _ _) ex_150
    refine lv_if_le (tgt := 158) hx hb dX5_joined_151 (by decide) (fun c_151 => ?_) (fun c_151 => ?_)
    · have h151_x_150 : gIv (-1) 0 x_150 := gIv_le_l hx_150 (gIv_of (a := 0) (b := 0) (x := 0) (by decide)) c_151 (by decide)
      refine lv_lconst (v := 0) hx hb dX5_joined_158 (by decide) ?_
      exact hB_159 0 ls  (lv_sub hl [] rfl)
    · have h151_x_150 : gIv 1 1 x_150 := gIv_lt_r (gIv_of (a := 0) (b := 0) (x := 0) (by decide)) hx_150 (gz_nle c_151) (by decide)
      refine lv_lconst (v := 1) hx hb dX5_joined_154 (by decide) ?_
      refine lv_goto (tgt := 159) hx hb dX5_joined_155 (by decide) ?_
      exact hB_159 1 ls  (lv_sub hl [] rfl)
  · refine gz_ni q_1 ?_
    refine lv_tableIn (off := 159) (tgt := 160) hx hb dX5_joined_1 (by decide) (by decide) (by decide) (by decide) ?_
    have h1_200010_a : gIv 200010 200010 a := gIv_eqc (gIv_any a) (gIv_of (a := 200010) (b := 200010) (x := 200010) (by decide)) q_1 (by decide)
    refine lv_lload_n hx hb dX5_joined_160 rfl (lv_at hl 1 rfl) ?_
    refine lv_lload_n hx hb dX5_joined_161 rfl (lv_at hl 2 rfl) ?_
    refine lv_land hx hb dX5_joined_162 ?_
    refine lv_topl (fun x_162 ex_162 => ?_)
    exact W.lret (v := x_162) hx hb hr (fun t ht hW => ⟨x_162, rfl, trivial, ht⟩) (fun _ h9 => absurd h9 List.not_mem_nil) dX5_joined_163
set_option maxHeartbeats 4000000 in
set_option maxRecDepth 100000 in
theorem s_X5_valueOf (l : Launch) (G : va_G) (k : Nat → ClassId) (sa : Nat → Nat) (sz : Nat) (d : Nat) (d_st : Nat) (d_stF : Nat → Int32) (d_se : Nat) (d_te : Nat) (d_sk : Nat) (d_skF : Nat → Int64) (d_cl : Int32) (d_ln : Int32) (a : Int32) (b : Int32) (wo : Nat) (woF : Nat → Int64) (h_d_cl : gIv 0 12 d_cl) (h_d_ln : gIv 0 400 d_ln) (h_a : gIv 0 400 a) (h_b : gIv 0 400 b) : Met l yX5_valueOf vs_s_X5_valueOf ({ frames := 1, cells := 0, slots := 0, locals := 24 } : Room) (gP G k sa [.ref d, .int a, .int b, .ref wo] [(d, .inr (5, [.ref d_st, .ref d_se, .ref d_te, .ref d_sk, .int d_cl, .int d_ln])), (d_st, .inl (k 0, 400, .inl d_stF)), (d_sk, .inl (k 1, 64, .inr (.inl d_skF))), (wo, .inl (k 1, 12, .inr (.inl woF)))] sz) (va_Ql (fun r (u : gS) => (True) ∧ True) (gO G (va_A [(d, .inr (5, [.ref d_st, .ref d_se, .ref d_te, .ref d_sk, .int d_cl, .int d_ln])), (d_st, .inl (k 0, 400, .inl d_stF)), (d_sk, .inl (k 1, 64, .inr (.inl d_skF))), (wo, .inl (k 1, 12, .inr (.inl woF)))] sz) (fun u : gS => [(d, .inr (5, [.ref d_st, .ref d_se, .ref d_te, .ref d_sk, .int d_cl, .int d_ln])), (d_st, .inl (k 0, 400, .inl d_stF)), (d_sk, .inl (k 1, 64, .inr (.inl (u.2.2.2.1 1000)))), (wo, .inl (k 1, 12, .inr (.inl woF)))])) (va_A [(d, .inr (5, [.ref d_st, .ref d_se, .ref d_te, .ref d_sk, .int d_cl, .int d_ln])), (d_st, .inl (k 0, 400, .inl d_stF)), (d_sk, .inl (k 1, 64, .inr (.inl d_skF))), (wo, .inl (k 1, 12, .inr (.inl woF)))] sz)) 0 0 (va_A [(d, .inr (5, [.ref d_st, .ref d_se, .ref d_te, .ref d_sk, .int d_cl, .int d_ln])), (d_st, .inl (k 0, 400, .inl d_stF)), (d_sk, .inl (k 1, 64, .inr (.inl d_skF))), (wo, .inl (k 1, 12, .inr (.inl woF)))] sz) := by
  refine gz_met (cc := cX5_valueOf) (maxL := 7) (ret := (some .long)) (by decide) rfl (Nat.le_of_ble_eq_true rfl) ?_
  intro p_ e_ s_ m below_ meth_ c_ ls hx hb hr hml hts hown hlocks hin hP hE hZ hD hA hS
  generalize hAe : va_A [(d, .inr (5, [.ref d_st, .ref d_se, .ref d_te, .ref d_sk, .int d_cl, .int d_ln])), (d_st, .inl (k 0, 400, .inl d_stF)), (d_sk, .inl (k 1, 64, .inr (.inl d_skF))), (wo, .inl (k 1, 12, .inr (.inl woF)))] sz = A at hZ hD hA hS ⊢
  intro hl
  have hl : lv_has ls 7 [(0, .ref d), (1, .int a), (2, .int b), (3, .ref wo)] := hl
  have hB_184 : ∀ (g184_0 : Int64) (g6_2 : Nat → Int64) (ls : Array Slot) (H : Heap) (locs : List Loc), va_P G vwCl [(d, .inr (5, [.ref d_st, .ref d_se, .ref d_te, .ref d_sk, .int d_cl, .int d_ln])), (d_st, .inl (k 0, 400, .inl d_stF)), (d_sk, .inl (k 1, 64, .inr (.inl g6_2))), (wo, .inl (k 1, 12, .inr (.inl woF)))] H → va_D A [(d, .inr (5, [.ref d_st, .ref d_se, .ref d_te, .ref d_sk, .int d_cl, .int d_ln])), (d_st, .inl (k 0, 400, .inl d_stF)), (d_sk, .inl (k 1, 64, .inr (.inl g6_2))), (wo, .inl (k 1, 12, .inr (.inl woF)))] → va_S A s_.heap H locs → lv_has ls 7 [] → W p_ l e_ (headSpec vs_s_X5_valueOf ({ frames := 1, cells := 0, slots := 0, locals := 24 } : Room)).room s_ m [.ref d, .int a, .int b, .ref wo].toArray below_ meth_ c_ H locs 0 0 (MQ below_ (va_Ql (fun r (u : gS) => (True) ∧ True) (gO G A (fun u : gS => [(d, .inr (5, [.ref d_st, .ref d_se, .ref d_te, .ref d_sk, .int d_cl, .int d_ln])), (d_st, .inl (k 0, 400, .inl d_stF)), (d_sk, .inl (k 1, 64, .inr (.inl (u.2.2.2.1 1000)))), (wo, .inl (k 1, 12, .inr (.inl woF)))])) A) [.ref d, .int a, .int b, .ref wo].toArray s_ 0 0 A) (F0 m 184 ls [.long g184_0]) := by
    intro g184_0 g6_2 ls H locs  hP hD hS hl
    have hP9 := hP.sub (ws' := ((fun u : gS => [(d, .inr (5, [.ref d_st, .ref d_se, .ref d_te, .ref d_sk, .int d_cl, .int d_ln])), (d_st, .inl (k 0, 400, .inl d_stF)), (d_sk, .inl (k 1, 64, .inr (.inl (u.2.2.2.1 1000)))), (wo, .inl (k 1, 12, .inr (.inl woF)))]) ((fun _ => 0), (fun _ _ => 0), (fun _ => 0), (gU (fun _ _ => 0) 1000 g6_2), (fun _ => none)))) [0, 1, 2, 3] rfl
    have hD9 := hD.sub (ws' := ((fun u : gS => [(d, .inr (5, [.ref d_st, .ref d_se, .ref d_te, .ref d_sk, .int d_cl, .int d_ln])), (d_st, .inl (k 0, 400, .inl d_stF)), (d_sk, .inl (k 1, 64, .inr (.inl (u.2.2.2.1 1000)))), (wo, .inl (k 1, 12, .inr (.inl woF)))]) ((fun _ => 0), (fun _ _ => 0), (fun _ => 0), (gU (fun _ _ => 0) 1000 g6_2), (fun _ => none)))) [0, 1, 2, 3] (by decide) rfl
    exact W.lret (v := g184_0) hx hb hr (fun t ht hW => ⟨⟨g184_0, ((fun _ => 0), (fun _ _ => 0), (fun _ => 0), (gU (fun _ _ => 0) 1000 g6_2), (fun _ => none)), rfl, ⟨trivial, trivial⟩, by rw [ht]; exact hP9, hD9⟩, hS.F ht⟩) hS.2.2 dX5_valueOf_184
  have hB_166 : ∀ (g6_0 : Int32) (g6_2 : Nat → Int64) (ls : Array Slot) (H : Heap) (locs : List Loc), gIv 0 64 g6_0 → va_P G vwCl [(d, .inr (5, [.ref d_st, .ref d_se, .ref d_te, .ref d_sk, .int d_cl, .int d_ln])), (d_st, .inl (k 0, 400, .inl d_stF)), (d_sk, .inl (k 1, 64, .inr (.inl g6_2))), (wo, .inl (k 1, 12, .inr (.inl woF)))] H → va_D A [(d, .inr (5, [.ref d_st, .ref d_se, .ref d_te, .ref d_sk, .int d_cl, .int d_ln])), (d_st, .inl (k 0, 400, .inl d_stF)), (d_sk, .inl (k 1, 64, .inr (.inl g6_2))), (wo, .inl (k 1, 12, .inr (.inl woF)))] → va_S A s_.heap H locs → lv_has ls 7 [(0, .ref d), (4, .int g6_0)] → W p_ l e_ (headSpec vs_s_X5_valueOf ({ frames := 1, cells := 0, slots := 0, locals := 24 } : Room)).room s_ m [.ref d, .int a, .int b, .ref wo].toArray below_ meth_ c_ H locs 0 0 (MQ below_ (va_Ql (fun r (u : gS) => (True) ∧ True) (gO G A (fun u : gS => [(d, .inr (5, [.ref d_st, .ref d_se, .ref d_te, .ref d_sk, .int d_cl, .int d_ln])), (d_st, .inl (k 0, 400, .inl d_stF)), (d_sk, .inl (k 1, 64, .inr (.inl (u.2.2.2.1 1000)))), (wo, .inl (k 1, 12, .inr (.inl woF)))])) A) [.ref d, .int a, .int b, .ref wo].toArray s_ 0 0 A) (F0 m 166 ls []) := by
    intro g6_0 g6_2 ls H locs b166_0 hP hD hS hl
    refine lv_iload hx hb dX5_valueOf_166 (lv_at hl 1 rfl) ?_
    refine lv_if_le (tgt := 183) hx hb dX5_valueOf_168 (by decide) (fun c_168 => ?_) (fun c_168 => ?_)
    · have h168_g6_0 : gIv 0 0 g6_0 := gIv_le_l b166_0 (gIv_of (a := 0) (b := 0) (x := 0) (by decide)) c_168 (by decide)
      refine lv_lconst (v := 0) hx hb dX5_valueOf_183 (by decide) ?_
      exact hB_184 0 g6_2 ls H locs  hP hD hS (lv_sub hl [] rfl)
    · have h168_g6_0 : gIv 1 64 g6_0 := gIv_lt_r (gIv_of (a := 0) (b := 0) (x := 0) (by decide)) b166_0 (gz_nle c_168) (by decide)
      refine lv_aload_n hx hb dX5_valueOf_171 rfl (lv_at hl 0 rfl) ?_
      refine va_get (D := G) (ci := 5) (v := .ref d_sk) (C := RX5) (T := TX5) (N := 6) hx hb hts j_s_X5_valueOf_5 hown hE.K hP 0 rfl rfl 3 (by decide) (hts (.fieldLink RX5 21 "GossamerGate$Rule" "stack" "[J") (List.mem_cons_of_mem _ (List.mem_append_left _ (List.mem_of_getElem? (i := 3) rfl)))) (fun _ h9 => h9) rfl dX5_valueOf_172 ?_
      refine lv_iload hx hb dX5_valueOf_175 (lv_at hl 1 rfl) ?_
      refine lv_iconst (v := 1) hx hb dX5_valueOf_177 (by decide) ?_
      refine lv_isub hx hb dX5_valueOf_178 ?_
      refine lv_topi (fun x_178 ex_178 => ?_)
      have hx_178 : gIv 0 63 x_178 := gIv_eq (gIv_sub h168_g6_0 (gIv_of (a := 1) (b := 1) (x := 1) (by decide)) (by decide) (by decide)) ex_178
      have ix_178 : x_178.toInt = g6_0.toInt + (-1) := gI_dec ex_178 h168_g6_0 (by decide)
      refine va_lald hx hb hE.K hP 2 1 rfl rfl (gIv_in (gIv_w hx_178 (by decide) (by decide) : gIv 0 63 x_178) (by decide)) dX5_valueOf_179 ?_
      refine lv_topl (fun x_179 ex_179 => ?_)
      refine lv_goto (tgt := 184) hx hb dX5_valueOf_180 (by decide) ?_
      exact hB_184 x_179 g6_2 ls H locs  hP hD hS (lv_sub hl [] rfl)
  have hL_6 : ∀ (n : Nat) (g6_0 : Int32) (g6_1 : Int32) (g6_2 : Nat → Int64) (ls : Array Slot) (H : Heap) (locs : List Loc), gIv 0 64 g6_0 → gIv 0 400 g6_1 → (400 - g6_1.toInt).toNat < n → va_P G vwCl [(d, .inr (5, [.ref d_st, .ref d_se, .ref d_te, .ref d_sk, .int d_cl, .int d_ln])), (d_st, .inl (k 0, 400, .inl d_stF)), (d_sk, .inl (k 1, 64, .inr (.inl g6_2))), (wo, .inl (k 1, 12, .inr (.inl woF)))] H → va_D A [(d, .inr (5, [.ref d_st, .ref d_se, .ref d_te, .ref d_sk, .int d_cl, .int d_ln])), (d_st, .inl (k 0, 400, .inl d_stF)), (d_sk, .inl (k 1, 64, .inr (.inl g6_2))), (wo, .inl (k 1, 12, .inr (.inl woF)))] → va_S A s_.heap H locs → lv_has ls 7 [(0, .ref d), (2, .int b), (3, .ref wo), (4, .int g6_0), (5, .int g6_1)] → W p_ l e_ (headSpec vs_s_X5_valueOf ({ frames := 1, cells := 0, slots := 0, locals := 24 } : Room)).room s_ m [.ref d, .int a, .int b, .ref wo].toArray below_ meth_ c_ H locs 0 0 (MQ below_ (va_Ql (fun r (u : gS) => (True) ∧ True) (gO G A (fun u : gS => [(d, .inr (5, [.ref d_st, .ref d_se, .ref d_te, .ref d_sk, .int d_cl, .int d_ln])), (d_st, .inl (k 0, 400, .inl d_stF)), (d_sk, .inl (k 1, 64, .inr (.inl (u.2.2.2.1 1000)))), (wo, .inl (k 1, 12, .inr (.inl woF)))])) A) [.ref d, .int a, .int b, .ref wo].toArray s_ 0 0 A) (F0 m 6 ls []) := by
    intro n
    induction n with
    | zero => intro g6_0 g6_1 g6_2 ls H locs b6_0 b6_1 hm_6 hP hD hS hl; exact absurd hm_6 (Nat.not_lt_zero _)
    | succ n ih_6 =>
      intro g6_0 g6_1 g6_2 ls H locs b6_0 b6_1 hm_6 hP hD hS hl
      have hB_160 : ∀ (g160_0 : Int32) (g160_1 : Nat → Int64) (ls : Array Slot) (H : Heap) (locs : List Loc), gIv 1 400 b → gIv 0 64 g160_0 → gIv 0 399 g6_1 → va_P G vwCl [(d, .inr (5, [.ref d_st, .ref d_se, .ref d_te, .ref d_sk, .int d_cl, .int d_ln])), (d_st, .inl (k 0, 400, .inl d_stF)), (d_sk, .inl (k 1, 64, .inr (.inl g160_1))), (wo, .inl (k 1, 12, .inr (.inl woF)))] H → va_D A [(d, .inr (5, [.ref d_st, .ref d_se, .ref d_te, .ref d_sk, .int d_cl, .int d_ln])), (d_st, .inl (k 0, 400, .inl d_stF)), (d_sk, .inl (k 1, 64, .inr (.inl g160_1))), (wo, .inl (k 1, 12, .inr (.inl woF)))] → va_S A s_.heap H locs → lv_has ls 7 [(0, .ref d), (2, .int b), (3, .ref wo), (4, .int g160_0), (5, .int g6_1)] → W p_ l e_ (headSpec vs_s_X5_valueOf ({ frames := 1, cells := 0, slots := 0, locals := 24 } : Room)).room s_ m [.ref d, .int a, .int b, .ref wo].toArray below_ meth_ c_ H locs 0 0 (MQ below_ (va_Ql (fun r (u : gS) => (True) ∧ True) (gO G A (fun u : gS => [(d, .inr (5, [.ref d_st, .ref d_se, .ref d_te, .ref d_sk, .int d_cl, .int d_ln])), (d_st, .inl (k 0, 400, .inl d_stF)), (d_sk, .inl (k 1, 64, .inr (.inl (u.2.2.2.1 1000)))), (wo, .inl (k 1, 12, .inr (.inl woF)))])) A) [.ref d, .int a, .int b, .ref wo].toArray s_ 0 0 A) (F0 m 160 ls []) := by
        intro g160_0 g160_1 ls H locs b160_0 b160_1 b160_2 hP hD hS hl
        obtain ⟨x_160, ex_160⟩ : ∃ y : Int32, y = g6_1 + 1 := ⟨_, rfl⟩
        refine lv_iinc (v := x_160) (lv' := [(5, .int x_160), (0, .ref d), (2, .int b), (3, .ref wo), (4, .int g160_0)]) hx hb dX5_valueOf_160 hl (k := 4) rfl (by rw [ex_160]; rfl) (by decide) rfl (fun ls hl => ?_)
        have hx_160 : gIv 1 400 x_160 := gIv_eq (gIv_add b160_2 (gIv_of (a := 1) (b := 1) (by decide)) (by decide) (by decide)) ex_160
        have ix_160 : x_160.toInt = g6_1.toInt + 1 := gI_add ex_160 b160_2 (by decide) (by decide)
        refine lv_goto (tgt := 6) hx hb dX5_valueOf_163 (by decide) ?_
        exact ih_6 g160_0 x_160 g160_1 ls H locs b160_1 (gIv_w (a' := 0) (b' := 400) hx_160 (by decide) (by decide)) (gM_up ix_160 ((gIv_w (a' := 0) (b' := 400) hx_160 (by decide) (by decide))).2 hm_6 (by decide)) hP hD hS (lv_sub hl [1, 2, 3, 4, 0] rfl)
      have hB_117 : ∀ (g117_0 : Int64) (x_97 : Int32) (ls : Array Slot) (H : Heap) (locs : List Loc), gIv 1 400 b → gIv 1 64 g6_0 → gIv 0 399 g6_1 → gIv 0 63 x_97 → va_P G vwCl [(d, .inr (5, [.ref d_st, .ref d_se, .ref d_te, .ref d_sk, .int d_cl, .int d_ln])), (d_st, .inl (k 0, 400, .inl d_stF)), (d_sk, .inl (k 1, 64, .inr (.inl g6_2))), (wo, .inl (k 1, 12, .inr (.inl woF)))] H → va_D A [(d, .inr (5, [.ref d_st, .ref d_se, .ref d_te, .ref d_sk, .int d_cl, .int d_ln])), (d_st, .inl (k 0, 400, .inl d_stF)), (d_sk, .inl (k 1, 64, .inr (.inl g6_2))), (wo, .inl (k 1, 12, .inr (.inl woF)))] → va_S A s_.heap H locs → lv_has ls 7 [(0, .ref d), (2, .int b), (3, .ref wo), (4, .int g6_0), (5, .int g6_1)] → W p_ l e_ (headSpec vs_s_X5_valueOf ({ frames := 1, cells := 0, slots := 0, locals := 24 } : Room)).room s_ m [.ref d, .int a, .int b, .ref wo].toArray below_ meth_ c_ H locs 0 0 (MQ below_ (va_Ql (fun r (u : gS) => (True) ∧ True) (gO G A (fun u : gS => [(d, .inr (5, [.ref d_st, .ref d_se, .ref d_te, .ref d_sk, .int d_cl, .int d_ln])), (d_st, .inl (k 0, 400, .inl d_stF)), (d_sk, .inl (k 1, 64, .inr (.inl (u.2.2.2.1 1000)))), (wo, .inl (k 1, 12, .inr (.inl woF)))])) A) [.ref d, .int a, .int b, .ref wo].toArray s_ 0 0 A) (F0 m 117 ls [.long g117_0, .int x_97, .ref d_sk]) := by
        intro g117_0 x_97 ls H locs b117_0 b117_1 b117_2 b117_3 hP hD hS hl
        refine va_last hx hb hE.K hP hD hS 2 1 rfl rfl (gIv_in (gIv_w b117_3 (by decide) (by decide) : gIv 0 63 x_97) (by decide)) dX5_valueOf_117 (fun H locs hP hD hS => ?_)
        have hP : va_P G vwCl [(d, .inr (5, [.ref d_st, .ref d_se, .ref d_te, .ref d_sk, .int d_cl, .int d_ln])), (d_st, .inl (k 0, 400, .inl d_stF)), (d_sk, .inl (k 1, 64, .inr (.inl (vp_updL g6_2 (Int32.toNatClampNeg x_97) g117_0)))), (wo, .inl (k 1, 12, .inr (.inl woF)))] H := hP
        have hD : va_D A [(d, .inr (5, [.ref d_st, .ref d_se, .ref d_te, .ref d_sk, .int d_cl, .int d_ln])), (d_st, .inl (k 0, 400, .inl d_stF)), (d_sk, .inl (k 1, 64, .inr (.inl (vp_updL g6_2 (Int32.toNatClampNeg x_97) g117_0)))), (wo, .inl (k 1, 12, .inr (.inl woF)))] := hD
        obtain ⟨f_117, ef_117⟩ : ∃ y : Nat → Int64, y = vp_updL g6_2 (Int32.toNatClampNeg x_97) g117_0 := ⟨_, rfl⟩
        rw [← ef_117] at hP hD
        have hP : va_P G vwCl [(d, .inr (5, [.ref d_st, .ref d_se, .ref d_te, .ref d_sk, .int d_cl, .int d_ln])), (d_st, .inl (k 0, 400, .inl d_stF)), (d_sk, .inl (k 1, 64, .inr (.inl f_117))), (wo, .inl (k 1, 12, .inr (.inl woF)))] H := hP
        have hD : va_D A [(d, .inr (5, [.ref d_st, .ref d_se, .ref d_te, .ref d_sk, .int d_cl, .int d_ln])), (d_st, .inl (k 0, 400, .inl d_stF)), (d_sk, .inl (k 1, 64, .inr (.inl f_117))), (wo, .inl (k 1, 12, .inr (.inl woF)))] := hD
        refine lv_goto (tgt := 160) hx hb dX5_valueOf_118 (by decide) ?_
        exact hB_160 g6_0 f_117 ls H locs b117_0 (gIv_w (a' := 0) (b' := 64) b117_1 (by decide) (by decide)) b117_2 hP hD hS (lv_sub hl [0, 1, 2, 3, 4] rfl)
      have hB_71 : ∀ (g71_0 : Int64) (ls : Array Slot) (H : Heap) (locs : List Loc), gIv 1 400 b → gIv 0 63 g6_0 → gIv 0 399 g6_1 → va_P G vwCl [(d, .inr (5, [.ref d_st, .ref d_se, .ref d_te, .ref d_sk, .int d_cl, .int d_ln])), (d_st, .inl (k 0, 400, .inl d_stF)), (d_sk, .inl (k 1, 64, .inr (.inl g6_2))), (wo, .inl (k 1, 12, .inr (.inl woF)))] H → va_D A [(d, .inr (5, [.ref d_st, .ref d_se, .ref d_te, .ref d_sk, .int d_cl, .int d_ln])), (d_st, .inl (k 0, 400, .inl d_stF)), (d_sk, .inl (k 1, 64, .inr (.inl g6_2))), (wo, .inl (k 1, 12, .inr (.inl woF)))] → va_S A s_.heap H locs → lv_has ls 7 [(0, .ref d), (2, .int b), (3, .ref wo), (4, .int g6_0), (5, .int g6_1)] → W p_ l e_ (headSpec vs_s_X5_valueOf ({ frames := 1, cells := 0, slots := 0, locals := 24 } : Room)).room s_ m [.ref d, .int a, .int b, .ref wo].toArray below_ meth_ c_ H locs 0 0 (MQ below_ (va_Ql (fun r (u : gS) => (True) ∧ True) (gO G A (fun u : gS => [(d, .inr (5, [.ref d_st, .ref d_se, .ref d_te, .ref d_sk, .int d_cl, .int d_ln])), (d_st, .inl (k 0, 400, .inl d_stF)), (d_sk, .inl (k 1, 64, .inr (.inl (u.2.2.2.1 1000)))), (wo, .inl (k 1, 12, .inr (.inl woF)))])) A) [.ref d, .int a, .int b, .ref wo].toArray s_ 0 0 A) (F0 m 71 ls [.long g71_0, .int g6_0, .ref d_sk]) := by
        intro g71_0 ls H locs b71_0 b71_1 b71_2 hP hD hS hl
        refine va_last hx hb hE.K hP hD hS 2 1 rfl rfl (gIv_in (gIv_w b71_1 (by decide) (by decide) : gIv 0 63 g6_0) (by decide)) dX5_valueOf_71 (fun H locs hP hD hS => ?_)
        have hP : va_P G vwCl [(d, .inr (5, [.ref d_st, .ref d_se, .ref d_te, .ref d_sk, .int d_cl, .int d_ln])), (d_st, .inl (k 0, 400, .inl d_stF)), (d_sk, .inl (k 1, 64, .inr (.inl (vp_updL g6_2 (Int32.toNatClampNeg g6_0) g71_0)))), (wo, .inl (k 1, 12, .inr (.inl woF)))] H := hP
        have hD : va_D A [(d, .inr (5, [.ref d_st, .ref d_se, .ref d_te, .ref d_sk, .int d_cl, .int d_ln])), (d_st, .inl (k 0, 400, .inl d_stF)), (d_sk, .inl (k 1, 64, .inr (.inl (vp_updL g6_2 (Int32.toNatClampNeg g6_0) g71_0)))), (wo, .inl (k 1, 12, .inr (.inl woF)))] := hD
        obtain ⟨f_71, ef_71⟩ : ∃ y : Nat → Int64, y = vp_updL g6_2 (Int32.toNatClampNeg g6_0) g71_0 := ⟨_, rfl⟩
        rw [← ef_71] at hP hD
        have hP : va_P G vwCl [(d, .inr (5, [.ref d_st, .ref d_se, .ref d_te, .ref d_sk, .int d_cl, .int d_ln])), (d_st, .inl (k 0, 400, .inl d_stF)), (d_sk, .inl (k 1, 64, .inr (.inl f_71))), (wo, .inl (k 1, 12, .inr (.inl woF)))] H := hP
        have hD : va_D A [(d, .inr (5, [.ref d_st, .ref d_se, .ref d_te, .ref d_sk, .int d_cl, .int d_ln])), (d_st, .inl (k 0, 400, .inl d_stF)), (d_sk, .inl (k 1, 64, .inr (.inl f_71))), (wo, .inl (k 1, 12, .inr (.inl woF)))] := hD
        obtain ⟨x_72, ex_72⟩ : ∃ y : Int32, y = g6_0 + 1 := ⟨_, rfl⟩
        refine lv_iinc (v := x_72) (lv' := [(4, .int x_72), (0, .ref d), (2, .int b), (3, .ref wo), (5, .int g6_1)]) hx hb dX5_valueOf_72 hl (k := 3) rfl (by rw [ex_72]; rfl) (by decide) rfl (fun ls hl => ?_)
        have hx_72 : gIv 1 64 x_72 := gIv_eq (gIv_add b71_1 (gIv_of (a := 1) (b := 1) (by decide)) (by decide) (by decide)) ex_72
        have ix_72 : x_72.toInt = g6_0.toInt + 1 := gI_add ex_72 b71_1 (by decide) (by decide)
        refine lv_goto (tgt := 160) hx hb dX5_valueOf_75 (by decide) ?_
        exact hB_160 x_72 f_71 ls H locs b71_0 (gIv_w (a' := 0) (b' := 64) hx_72 (by decide) (by decide)) b71_2 hP hD hS (lv_sub hl [1, 2, 3, 0, 4] rfl)
      refine lv_iload hx hb dX5_valueOf_6 (lv_at hl 4 rfl) ?_
      refine lv_iload_n hx hb dX5_valueOf_8 rfl (lv_at hl 1 rfl) ?_
      refine lv_icmp_ge (tgt := 166) hx hb dX5_valueOf_9 (by decide) (fun c_9 => ?_) (fun c_9 => ?_)
      · exact hB_166 g6_0 g6_2 ls H locs b6_0 hP hD hS (lv_sub hl [0, 3] rfl)
      · have h9_g6_1 : gIv 0 399 g6_1 := gIv_lt_l b6_1 h_b (gz_nle c_9) (by decide)
        have h9_b : gIv 1 400 b := gIv_lt_r b6_1 h_b (gz_nle c_9) (by decide)
        refine lv_iload hx hb dX5_valueOf_12 (lv_at hl 4 rfl) ?_
        refine lv_sipush (v := 400) hx hb dX5_valueOf_14 (by decide) ?_
        refine lv_icmp_ge (tgt := 166) hx hb dX5_valueOf_17 (by decide) (fun c_17 => ?_) (fun c_17 => ?_)
        · exact absurd c_17 (gIv_nle (gIv_of (a := 400) (b := 400) (x := 400) (by decide)) h9_g6_1 (by decide))
        · refine lv_aload_n hx hb dX5_valueOf_20 rfl (lv_at hl 0 rfl) ?_
          refine va_get (D := G) (ci := 5) (v := .ref d_st) (C := RX5) (T := TX5) (N := 6) hx hb hts j_s_X5_valueOf_5 hown hE.K hP 0 rfl rfl 0 (by decide) (hts (.fieldLink RX5 9 "GossamerGate$Rule" "steps" "[I") (List.mem_cons_of_mem _ (List.mem_append_left _ (List.mem_of_getElem? (i := 0) rfl)))) (fun _ h9 => h9) rfl dX5_valueOf_21 ?_
          refine lv_iload hx hb dX5_valueOf_24 (lv_at hl 4 rfl) ?_
          refine va_iald hx hb hE.K hP 1 0 rfl rfl (gIv_in (gIv_w h9_g6_1 (by decide) (by decide) : gIv 0 399 g6_1) (by decide)) dX5_valueOf_26 ?_
          refine lv_topi (fun x_26 ex_26 => ?_)
          refine lv_istore (lv' := [(6, .int x_26), (0, .ref d), (2, .int b), (3, .ref wo), (4, .int g6_0), (5, .int g6_1)]) hx hb dX5_valueOf_27 hl (by decide) rfl (fun ls hl => ?_)
          refine lv_iload hx hb dX5_valueOf_29 (lv_at hl 0 rfl) ?_
          refine lv_ldc (v := 200000) hx hb hown (hts (.constant RX5 42 (200000)) (List.mem_cons_of_mem _ (List.mem_append_left _ (List.mem_of_getElem? (i := 1) rfl)))) dX5_valueOf_31 ?_
          refine lv_icmp_ge (tgt := 78) hx hb dX5_valueOf_33 (by decide) (fun c_33 => ?_) (fun c_33 => ?_)
          · have h33_x_26 : gIv 200000 2147483647 x_26 := gIv_le_r (gIv_of (a := 200000) (b := 200000) (x := 200000) (by decide)) (gIv_any x_26) c_33 (by decide)
            refine lv_iload hx hb dX5_valueOf_78 (lv_at hl 0 rfl) ?_
            refine lv_ldc (v := 200012) hx hb hown (hts (.constant RX5 48 (200012)) (List.mem_cons_of_mem _ (List.mem_append_left _ (List.mem_of_getElem? (i := 2) rfl)))) dX5_valueOf_80 ?_
            refine lv_icmp_ne (tgt := 121) hx hb dX5_valueOf_82 (by decide) (fun c_82 => ?_) (fun c_82 => ?_)
            · refine lv_iload hx hb dX5_valueOf_121 (lv_at hl 4 rfl) ?_
              refine lv_iconst (v := 1) hx hb dX5_valueOf_123 (by decide) ?_
              refine lv_icmp_le (tgt := 160) hx hb dX5_valueOf_124 (by decide) (fun c_124 => ?_) (fun c_124 => ?_)
              · have h124_g6_0 : gIv 0 1 g6_0 := gIv_le_l b6_0 (gIv_of (a := 1) (b := 1) (x := 1) (by decide)) c_124 (by decide)
                exact hB_160 g6_0 g6_2 ls H locs h9_b (gIv_w (a' := 0) (b' := 64) h124_g6_0 (by decide) (by decide)) h9_g6_1 hP hD hS (lv_sub hl [1, 2, 3, 4, 5] rfl)
              · have h124_g6_0 : gIv 2 64 g6_0 := gIv_lt_r (gIv_of (a := 1) (b := 1) (x := 1) (by decide)) b6_0 (gz_nle c_124) (by decide)
                obtain ⟨x_127, ex_127⟩ : ∃ y : Int32, y = g6_0 + (-1) := ⟨_, rfl⟩
                refine lv_iinc (v := x_127) (lv' := [(4, .int x_127), (6, .int x_26), (0, .ref d), (2, .int b), (3, .ref wo), (5, .int g6_1)]) hx hb dX5_valueOf_127 hl (k := 4) rfl (by rw [ex_127]; rfl) (by decide) rfl (fun ls hl => ?_)
                have hx_127 : gIv 1 63 x_127 := gIv_eq (gIv_add h124_g6_0 (gIv_of (a := (-1)) (b := (-1)) (by decide)) (by decide) (by decide)) ex_127
                have ix_127 : x_127.toInt = g6_0.toInt + (-1) := gI_add ex_127 h124_g6_0 (by decide) (by decide)
                refine lv_aload_n hx hb dX5_valueOf_130 rfl (lv_at hl 2 rfl) ?_
                refine va_get (D := G) (ci := 5) (v := .ref d_sk) (C := RX5) (T := TX5) (N := 6) hx hb hts j_s_X5_valueOf_5 hown hE.K hP 0 rfl rfl 3 (by decide) (hts (.fieldLink RX5 21 "GossamerGate$Rule" "stack" "[J") (List.mem_cons_of_mem _ (List.mem_append_left _ (List.mem_of_getElem? (i := 3) rfl)))) (fun _ h9 => h9) rfl dX5_valueOf_131 ?_
                refine lv_iload hx hb dX5_valueOf_134 (lv_at hl 0 rfl) ?_
                refine lv_iconst (v := 1) hx hb dX5_valueOf_136 (by decide) ?_
                refine lv_isub hx hb dX5_valueOf_137 ?_
                refine lv_topi (fun x_137 ex_137 => ?_)
                have hx_137 : gIv 0 62 x_137 := gIv_eq (gIv_sub hx_127 (gIv_of (a := 1) (b := 1) (x := 1) (by decide)) (by decide) (by decide)) ex_137
                have ix_137 : x_137.toInt = x_127.toInt + (-1) := gI_dec ex_137 hx_127 (by decide)
                refine lv_iload hx hb dX5_valueOf_138 (lv_at hl 1 rfl) ?_
                refine lv_aload_n hx hb dX5_valueOf_140 rfl (lv_at hl 2 rfl) ?_
                refine va_get (D := G) (ci := 5) (v := .ref d_sk) (C := RX5) (T := TX5) (N := 6) hx hb hts j_s_X5_valueOf_5 hown hE.K hP 0 rfl rfl 3 (by decide) (hts (.fieldLink RX5 21 "GossamerGate$Rule" "stack" "[J") (List.mem_cons_of_mem _ (List.mem_append_left _ (List.mem_of_getElem? (i := 3) rfl)))) (fun _ h9 => h9) rfl dX5_valueOf_141 ?_
                refine lv_iload hx hb dX5_valueOf_144 (lv_at hl 0 rfl) ?_
                refine lv_iconst (v := 1) hx hb dX5_valueOf_146 (by decide) ?_
                refine lv_isub hx hb dX5_valueOf_147 ?_
                refine lv_topi (fun x_147 ex_147 => ?_)
                have hx_147 : gIv 0 62 x_147 := gIv_eq (gIv_sub hx_127 (gIv_of (a := 1) (b := 1) (x := 1) (by decide)) (by decide) (by decide)) ex_147
                have ix_147 : x_147.toInt = x_127.toInt + (-1) := gI_dec ex_147 hx_127 (by decide)
                refine va_lald hx hb hE.K hP 2 1 rfl rfl (gIv_in (gIv_w hx_147 (by decide) (by decide) : gIv 0 63 x_147) (by decide)) dX5_valueOf_148 ?_
                refine lv_topl (fun x_148 ex_148 => ?_)
                refine lv_aload_n hx hb dX5_valueOf_149 rfl (lv_at hl 2 rfl) ?_
                refine va_get (D := G) (ci := 5) (v := .ref d_sk) (C := RX5) (T := TX5) (N := 6) hx hb hts j_s_X5_valueOf_5 hown hE.K hP 0 rfl rfl 3 (by decide) (hts (.fieldLink RX5 21 "GossamerGate$Rule" "stack" "[J") (List.mem_cons_of_mem _ (List.mem_append_left _ (List.mem_of_getElem? (i := 3) rfl)))) (fun _ h9 => h9) rfl dX5_valueOf_150 ?_
                refine lv_iload hx hb dX5_valueOf_153 (lv_at hl 0 rfl) ?_
                refine va_lald hx hb hE.K hP 2 1 rfl rfl (gIv_in (gIv_w hx_127 (by decide) (by decide) : gIv 0 63 x_127) (by decide)) dX5_valueOf_155 ?_
                refine lv_topl (fun x_155 ex_155 => ?_)
                refine vp_callSl (W.runS (As := [.int x_26, .long x_148, .long x_155]) (rest := [.int x_137, .ref d_sk]) ⟨hx, hb, hml, hown, hts⟩ (s_X5_joined l G k sa x_26 x_148 x_155) (va_cwS 3 hts g_s_X5_valueOf_49_s_X5_joined rfl rfl rfl (by decide +kernel) ⟨(Nat.le_of_ble_eq_true rfl), (Nat.le_of_ble_eq_true rfl)⟩) ⟨gR.bl, (gR.pre (wc := []) hE hZ hS hP [] rfl)⟩ rfl rfl hl.1 rfl (lv_room (Nat.le_of_ble_eq_true rfl)) dX5_valueOf_156 ⟨(Nat.le_of_ble_eq_true rfl), (Nat.le_of_ble_eq_true rfl)⟩) (fun r_156 hr_156 => ?_)
                refine va_last hx hb hE.K hP hD hS 2 1 rfl rfl (gIv_in (gIv_w hx_137 (by decide) (by decide) : gIv 0 63 x_137) (by decide)) dX5_valueOf_159 (fun H locs hP hD hS => ?_)
                have hP : va_P G vwCl [(d, .inr (5, [.ref d_st, .ref d_se, .ref d_te, .ref d_sk, .int d_cl, .int d_ln])), (d_st, .inl (k 0, 400, .inl d_stF)), (d_sk, .inl (k 1, 64, .inr (.inl (vp_updL g6_2 (Int32.toNatClampNeg x_137) r_156)))), (wo, .inl (k 1, 12, .inr (.inl woF)))] H := hP
                have hD : va_D A [(d, .inr (5, [.ref d_st, .ref d_se, .ref d_te, .ref d_sk, .int d_cl, .int d_ln])), (d_st, .inl (k 0, 400, .inl d_stF)), (d_sk, .inl (k 1, 64, .inr (.inl (vp_updL g6_2 (Int32.toNatClampNeg x_137) r_156)))), (wo, .inl (k 1, 12, .inr (.inl woF)))] := hD
                obtain ⟨f_159, ef_159⟩ : ∃ y : Nat → Int64, y = vp_updL g6_2 (Int32.toNatClampNeg x_137) r_156 := ⟨_, rfl⟩
                rw [← ef_159] at hP hD
                have hP : va_P G vwCl [(d, .inr (5, [.ref d_st, .ref d_se, .ref d_te, .ref d_sk, .int d_cl, .int d_ln])), (d_st, .inl (k 0, 400, .inl d_stF)), (d_sk, .inl (k 1, 64, .inr (.inl f_159))), (wo, .inl (k 1, 12, .inr (.inl woF)))] H := hP
                have hD : va_D A [(d, .inr (5, [.ref d_st, .ref d_se, .ref d_te, .ref d_sk, .int d_cl, .int d_ln])), (d_st, .inl (k 0, 400, .inl d_stF)), (d_sk, .inl (k 1, 64, .inr (.inl f_159))), (wo, .inl (k 1, 12, .inr (.inl woF)))] := hD
                exact hB_160 x_127 f_159 ls H locs h9_b (gIv_w (a' := 0) (b' := 64) hx_127 (by decide) (by decide)) h9_g6_1 hP hD hS (lv_sub hl [2, 3, 4, 0, 5] rfl)
            · have h82_x_26 : gIv 200012 200012 x_26 := gIv_eqc h33_x_26 (gIv_of (a := 200012) (b := 200012) (x := 200012) (by decide)) c_82 (by decide)
              refine lv_iload hx hb dX5_valueOf_85 (lv_at hl 4 rfl) ?_
              refine lv_if_le (tgt := 160) hx hb dX5_valueOf_87 (by decide) (fun c_87 => ?_) (fun c_87 => ?_)
              · have h87_g6_0 : gIv 0 0 g6_0 := gIv_le_l b6_0 (gIv_of (a := 0) (b := 0) (x := 0) (by decide)) c_87 (by decide)
                exact hB_160 g6_0 g6_2 ls H locs h9_b (gIv_w (a' := 0) (b' := 64) h87_g6_0 (by decide) (by decide)) h9_g6_1 hP hD hS (lv_sub hl [1, 2, 3, 4, 5] rfl)
              · have h87_g6_0 : gIv 1 64 g6_0 := gIv_lt_r (gIv_of (a := 0) (b := 0) (x := 0) (by decide)) b6_0 (gz_nle c_87) (by decide)
                refine lv_aload_n hx hb dX5_valueOf_90 rfl (lv_at hl 1 rfl) ?_
                refine va_get (D := G) (ci := 5) (v := .ref d_sk) (C := RX5) (T := TX5) (N := 6) hx hb hts j_s_X5_valueOf_5 hown hE.K hP 0 rfl rfl 3 (by decide) (hts (.fieldLink RX5 21 "GossamerGate$Rule" "stack" "[J") (List.mem_cons_of_mem _ (List.mem_append_left _ (List.mem_of_getElem? (i := 3) rfl)))) (fun _ h9 => h9) rfl dX5_valueOf_91 ?_
                refine lv_iload hx hb dX5_valueOf_94 (lv_at hl 4 rfl) ?_
                refine lv_iconst (v := 1) hx hb dX5_valueOf_96 (by decide) ?_
                refine lv_isub hx hb dX5_valueOf_97 ?_
                refine lv_topi (fun x_97 ex_97 => ?_)
                have hx_97 : gIv 0 63 x_97 := gIv_eq (gIv_sub h87_g6_0 (gIv_of (a := 1) (b := 1) (x := 1) (by decide)) (by decide) (by decide)) ex_97
                have ix_97 : x_97.toInt = g6_0.toInt + (-1) := gI_dec ex_97 h87_g6_0 (by decide)
                refine lv_aload_n hx hb dX5_valueOf_98 rfl (lv_at hl 1 rfl) ?_
                refine va_get (D := G) (ci := 5) (v := .ref d_sk) (C := RX5) (T := TX5) (N := 6) hx hb hts j_s_X5_valueOf_5 hown hE.K hP 0 rfl rfl 3 (by decide) (hts (.fieldLink RX5 21 "GossamerGate$Rule" "stack" "[J") (List.mem_cons_of_mem _ (List.mem_append_left _ (List.mem_of_getElem? (i := 3) rfl)))) (fun _ h9 => h9) rfl dX5_valueOf_99 ?_
                refine lv_iload hx hb dX5_valueOf_102 (lv_at hl 4 rfl) ?_
                refine lv_iconst (v := 1) hx hb dX5_valueOf_104 (by decide) ?_
                refine lv_isub hx hb dX5_valueOf_105 ?_
                refine lv_topi (fun x_105 ex_105 => ?_)
                have hx_105 : gIv 0 63 x_105 := gIv_eq (gIv_sub h87_g6_0 (gIv_of (a := 1) (b := 1) (x := 1) (by decide)) (by decide) (by decide)) ex_105
                have ix_105 : x_105.toInt = g6_0.toInt + (-1) := gI_dec ex_105 h87_g6_0 (by decide)
                refine va_lald hx hb hE.K hP 2 1 rfl rfl (gIv_in (gIv_w hx_105 (by decide) (by decide) : gIv 0 63 x_105) (by decide)) dX5_valueOf_106 ?_
                refine lv_topl (fun x_106 ex_106 => ?_)
                refine lv_lconst (v := 0) hx hb dX5_valueOf_107 (by decide) ?_
                refine W.lcmp hx hb dX5_valueOf_108 ?_
                refine lv_topi (fun x_108 ex_108 => ?_)
                have hx_108 : gIv (-1) 1 x_108 := gIv_eq (gIv_cmp _ _) ex_108
                refine lv_if_ne (tgt := 116) hx hb dX5_valueOf_109 (by decide) (fun c_109 => ?_) (fun c_109 => ?_)
                · refine lv_lconst (v := 0) hx hb dX5_valueOf_116 (by decide) ?_
                  exact hB_117 0 x_97 ls H locs h9_b h87_g6_0 h9_g6_1 hx_97 hP hD hS (lv_sub hl [1, 2, 3, 4, 5] rfl)
                · have h109_x_108 : gIv 0 0 x_108 := gIv_eqc hx_108 (gIv_of (a := 0) (b := 0) (x := 0) (by decide)) c_109 (by decide)
                  refine lv_lconst (v := 1) hx hb dX5_valueOf_112 (by decide) ?_
                  refine lv_goto (tgt := 117) hx hb dX5_valueOf_113 (by decide) ?_
                  exact hB_117 1 x_97 ls H locs h9_b h87_g6_0 h9_g6_1 hx_97 hP hD hS (lv_sub hl [1, 2, 3, 4, 5] rfl)
          · have h33_x_26 : gIv (-2147483648) 199999 x_26 := gIv_lt_l (gIv_any x_26) (gIv_of (a := 200000) (b := 200000) (x := 200000) (by decide)) (gz_nle c_33) (by decide)
            refine lv_iload hx hb dX5_valueOf_36 (lv_at hl 4 rfl) ?_
            refine lv_bipush (v := 64) hx hb dX5_valueOf_38 (by decide) ?_
            refine lv_icmp_ge (tgt := 160) hx hb dX5_valueOf_40 (by decide) (fun c_40 => ?_) (fun c_40 => ?_)
            · have h40_g6_0 : gIv 64 64 g6_0 := gIv_le_r (gIv_of (a := 64) (b := 64) (x := 64) (by decide)) b6_0 c_40 (by decide)
              exact hB_160 g6_0 g6_2 ls H locs h9_b (gIv_w (a' := 0) (b' := 64) h40_g6_0 (by decide) (by decide)) h9_g6_1 hP hD hS (lv_sub hl [1, 2, 3, 4, 5] rfl)
            · have h40_g6_0 : gIv 0 63 g6_0 := gIv_lt_l b6_0 (gIv_of (a := 64) (b := 64) (x := 64) (by decide)) (gz_nle c_40) (by decide)
              refine lv_aload_n hx hb dX5_valueOf_43 rfl (lv_at hl 1 rfl) ?_
              refine va_get (D := G) (ci := 5) (v := .ref d_sk) (C := RX5) (T := TX5) (N := 6) hx hb hts j_s_X5_valueOf_5 hown hE.K hP 0 rfl rfl 3 (by decide) (hts (.fieldLink RX5 21 "GossamerGate$Rule" "stack" "[J") (List.mem_cons_of_mem _ (List.mem_append_left _ (List.mem_of_getElem? (i := 3) rfl)))) (fun _ h9 => h9) rfl dX5_valueOf_44 ?_
              refine lv_iload hx hb dX5_valueOf_47 (lv_at hl 4 rfl) ?_
              refine lv_iload hx hb dX5_valueOf_49 (lv_at hl 0 rfl) ?_
              refine lv_ldc (v := 100000) hx hb hown (hts (.constant RX5 43 (100000)) (List.mem_cons_of_mem _ (List.mem_append_left _ (List.mem_of_getElem? (i := 4) rfl)))) dX5_valueOf_51 ?_
              refine lv_icmp_ge (tgt := 62) hx hb dX5_valueOf_53 (by decide) (fun c_53 => ?_) (fun c_53 => ?_)
              · have h53_x_26 : gIv 100000 199999 x_26 := gIv_le_r (gIv_of (a := 100000) (b := 100000) (x := 100000) (by decide)) h33_x_26 c_53 (by decide)
                refine lv_iload hx hb dX5_valueOf_62 (lv_at hl 0 rfl) ?_
                refine lv_ldc (v := 100000) hx hb hown (hts (.constant RX5 43 (100000)) (List.mem_cons_of_mem _ (List.mem_append_left _ (List.mem_of_getElem? (i := 4) rfl)))) dX5_valueOf_64 ?_
                refine lv_isub hx hb dX5_valueOf_66 ?_
                refine lv_topi (fun x_66 ex_66 => ?_)
                have hx_66 : gIv 0 99999 x_66 := gIv_eq (gIv_sub h53_x_26 (gIv_of (a := 100000) (b := 100000) (x := 100000) (by decide)) (by decide) (by decide)) ex_66
                refine lv_aload_n hx hb dX5_valueOf_67 rfl (lv_at hl 3 rfl) ?_
                refine vp_callSl (W.runS (As := [.int x_66, .ref wo]) (rest := [.int g6_0, .ref d_sk]) ⟨hx, hb, hml, hown, hts⟩ (s_X5_wordOf l G k sa x_66 wo woF) (va_cwS 2 hts g_s_X5_valueOf_44_s_X5_wordOf rfl rfl rfl (by decide +kernel) ⟨(Nat.le_of_ble_eq_true rfl), (Nat.le_of_ble_eq_true rfl)⟩) ⟨gR.bl, (gR.pre (wc := [(wo, .inl (k 1, 12, .inr (.inl woF)))]) hE hZ hS hP [3] rfl)⟩ rfl rfl hl.1 rfl (lv_room (Nat.le_of_ble_eq_true rfl)) dX5_valueOf_68 ⟨(Nat.le_of_ble_eq_true rfl), (Nat.le_of_ble_eq_true rfl)⟩) (fun r_68 hr_68 => ?_)
                exact hB_71 r_68 ls H locs h9_b h40_g6_0 h9_g6_1 hP hD hS (lv_sub hl [1, 2, 3, 4, 5] rfl)
              · have h53_x_26 : gIv (-2147483648) 99999 x_26 := gIv_lt_l h33_x_26 (gIv_of (a := 100000) (b := 100000) (x := 100000) (by decide)) (gz_nle c_53) (by decide)
                refine lv_iload hx hb dX5_valueOf_56 (lv_at hl 0 rfl) ?_
                refine lv_i2l (v := x_26.toInt64) hx hb dX5_valueOf_58 rfl ?_
                refine lv_goto (tgt := 71) hx hb dX5_valueOf_59 (by decide) ?_
                exact hB_71 x_26.toInt64 ls H locs h9_b h40_g6_0 h9_g6_1 hP hD hS (lv_sub hl [1, 2, 3, 4, 5] rfl)
  refine lv_iconst (v := 0) hx hb dX5_valueOf_0 (by decide) ?_
  refine lv_istore (lv' := [(4, .int 0), (0, .ref d), (1, .int a), (2, .int b), (3, .ref wo)]) hx hb dX5_valueOf_1 hl (by decide) rfl (fun ls hl => ?_)
  refine lv_iload_n hx hb dX5_valueOf_3 rfl (lv_at hl 2 rfl) ?_
  refine lv_istore (lv' := [(5, .int a), (4, .int 0), (0, .ref d), (1, .int a), (2, .int b), (3, .ref wo)]) hx hb dX5_valueOf_4 hl (by decide) rfl (fun ls hl => ?_)
  exact hL_6 _ 0 a d_skF ls _ _ (gIv_of (a := 0) (b := 64) (x := 0) (by decide)) h_a (Nat.lt_succ_self _) hP hD hS (lv_sub hl [2, 4, 5, 1, 0] rfl)
set_option maxHeartbeats 4000000 in
set_option maxRecDepth 100000 in
theorem s_X5_letsGo (l : Launch) (G : va_G) (k : Nat → ClassId) (sa : Nat → Nat) (sz : Nat) (d : Nat) (d_st : Nat) (d_stF : Nat → Int32) (d_se : Nat) (d_seF : Nat → Int32) (d_te : Nat) (d_teF : Nat → Int32) (d_sk : Nat) (d_skF : Nat → Int64) (d_cl : Int32) (d_ln : Int32) (wo : Nat) (woF : Nat → Int64) (h_d_cl : gIv 0 12 d_cl) (h_d_ln : gIv 0 400 d_ln) (a_d_seF : gAll 0 400 12 d_seF) (a_d_teF : gAll 0 400 12 d_teF) : Met l yX5_letsGo vs_s_X5_letsGo ({ frames := 2, cells := 0, slots := 0, locals := 50 } : Room) (gP G k sa [.ref d, .ref wo] [(d, .inr (5, [.ref d_st, .ref d_se, .ref d_te, .ref d_sk, .int d_cl, .int d_ln])), (d_st, .inl (k 0, 400, .inl d_stF)), (d_se, .inl (k 0, 12, .inl d_seF)), (d_te, .inl (k 0, 12, .inl d_teF)), (d_sk, .inl (k 1, 64, .inr (.inl d_skF))), (wo, .inl (k 1, 12, .inr (.inl woF)))] sz) (va_Qi (fun r (u : gS) => (gIv 0 1 r) ∧ True) (gO G (va_A [(d, .inr (5, [.ref d_st, .ref d_se, .ref d_te, .ref d_sk, .int d_cl, .int d_ln])), (d_st, .inl (k 0, 400, .inl d_stF)), (d_se, .inl (k 0, 12, .inl d_seF)), (d_te, .inl (k 0, 12, .inl d_teF)), (d_sk, .inl (k 1, 64, .inr (.inl d_skF))), (wo, .inl (k 1, 12, .inr (.inl woF)))] sz) (fun u : gS => [(d, .inr (5, [.ref d_st, .ref d_se, .ref d_te, .ref d_sk, .int d_cl, .int d_ln])), (d_st, .inl (k 0, 400, .inl d_stF)), (d_se, .inl (k 0, 12, .inl d_seF)), (d_te, .inl (k 0, 12, .inl d_teF)), (d_sk, .inl (k 1, 64, .inr (.inl (u.2.2.2.1 1000)))), (wo, .inl (k 1, 12, .inr (.inl woF)))])) (va_A [(d, .inr (5, [.ref d_st, .ref d_se, .ref d_te, .ref d_sk, .int d_cl, .int d_ln])), (d_st, .inl (k 0, 400, .inl d_stF)), (d_se, .inl (k 0, 12, .inl d_seF)), (d_te, .inl (k 0, 12, .inl d_teF)), (d_sk, .inl (k 1, 64, .inr (.inl d_skF))), (wo, .inl (k 1, 12, .inr (.inl woF)))] sz)) 0 0 (va_A [(d, .inr (5, [.ref d_st, .ref d_se, .ref d_te, .ref d_sk, .int d_cl, .int d_ln])), (d_st, .inl (k 0, 400, .inl d_stF)), (d_se, .inl (k 0, 12, .inl d_seF)), (d_te, .inl (k 0, 12, .inl d_teF)), (d_sk, .inl (k 1, 64, .inr (.inl d_skF))), (wo, .inl (k 1, 12, .inr (.inl woF)))] sz) := by
  refine gz_met (cc := cX5_letsGo) (maxL := 6) (ret := (some .boolean)) (by decide) rfl (Nat.le_of_ble_eq_true rfl) ?_
  intro p_ e_ s_ m below_ meth_ c_ ls hx hb hr hml hts hown hlocks hin hP hE hZ hD hA hS
  generalize hAe : va_A [(d, .inr (5, [.ref d_st, .ref d_se, .ref d_te, .ref d_sk, .int d_cl, .int d_ln])), (d_st, .inl (k 0, 400, .inl d_stF)), (d_se, .inl (k 0, 12, .inl d_seF)), (d_te, .inl (k 0, 12, .inl d_teF)), (d_sk, .inl (k 1, 64, .inr (.inl d_skF))), (wo, .inl (k 1, 12, .inr (.inl woF)))] sz = A at hZ hD hA hS ⊢
  intro hl
  have hl : lv_has ls 6 [(0, .ref d), (1, .ref wo)] := hl
  have hB_67 : ∀ (g67_0 : Int32) (g67_1 : Nat → Int64) (ls : Array Slot) (H : Heap) (locs : List Loc), gIv 0 1 g67_0 → gIv 1 12 d_cl → gAll 0 400 12 d_seF → gAll 0 400 12 d_teF → va_P G vwCl [(d, .inr (5, [.ref d_st, .ref d_se, .ref d_te, .ref d_sk, .int d_cl, .int d_ln])), (d_st, .inl (k 0, 400, .inl d_stF)), (d_se, .inl (k 0, 12, .inl d_seF)), (d_te, .inl (k 0, 12, .inl d_teF)), (d_sk, .inl (k 1, 64, .inr (.inl g67_1))), (wo, .inl (k 1, 12, .inr (.inl woF)))] H → va_D A [(d, .inr (5, [.ref d_st, .ref d_se, .ref d_te, .ref d_sk, .int d_cl, .int d_ln])), (d_st, .inl (k 0, 400, .inl d_stF)), (d_se, .inl (k 0, 12, .inl d_seF)), (d_te, .inl (k 0, 12, .inl d_teF)), (d_sk, .inl (k 1, 64, .inr (.inl g67_1))), (wo, .inl (k 1, 12, .inr (.inl woF)))] → va_S A s_.heap H locs → lv_has ls 6 [] → W p_ l e_ (headSpec vs_s_X5_letsGo ({ frames := 2, cells := 0, slots := 0, locals := 50 } : Room)).room s_ m [.ref d, .ref wo].toArray below_ meth_ c_ H locs 0 0 (MQ below_ (va_Qi (fun r (u : gS) => (gIv 0 1 r) ∧ True) (gO G A (fun u : gS => [(d, .inr (5, [.ref d_st, .ref d_se, .ref d_te, .ref d_sk, .int d_cl, .int d_ln])), (d_st, .inl (k 0, 400, .inl d_stF)), (d_se, .inl (k 0, 12, .inl d_seF)), (d_te, .inl (k 0, 12, .inl d_teF)), (d_sk, .inl (k 1, 64, .inr (.inl (u.2.2.2.1 1000)))), (wo, .inl (k 1, 12, .inr (.inl woF)))])) A) [.ref d, .ref wo].toArray s_ 0 0 A) (F0 m 67 ls [.int g67_0]) := by
    intro g67_0 g67_1 ls H locs b67_0 b67_1 b67_2 b67_3 hP hD hS hl
    have hP9 := hP.sub (ws' := ((fun u : gS => [(d, .inr (5, [.ref d_st, .ref d_se, .ref d_te, .ref d_sk, .int d_cl, .int d_ln])), (d_st, .inl (k 0, 400, .inl d_stF)), (d_se, .inl (k 0, 12, .inl d_seF)), (d_te, .inl (k 0, 12, .inl d_teF)), (d_sk, .inl (k 1, 64, .inr (.inl (u.2.2.2.1 1000)))), (wo, .inl (k 1, 12, .inr (.inl woF)))]) ((fun _ => 0), (fun _ _ => 0), (fun _ => 0), (gU (fun _ _ => 0) 1000 g67_1), (fun _ => none)))) [0, 1, 2, 3, 4, 5] rfl
    have hD9 := hD.sub (ws' := ((fun u : gS => [(d, .inr (5, [.ref d_st, .ref d_se, .ref d_te, .ref d_sk, .int d_cl, .int d_ln])), (d_st, .inl (k 0, 400, .inl d_stF)), (d_se, .inl (k 0, 12, .inl d_seF)), (d_te, .inl (k 0, 12, .inl d_teF)), (d_sk, .inl (k 1, 64, .inr (.inl (u.2.2.2.1 1000)))), (wo, .inl (k 1, 12, .inr (.inl woF)))]) ((fun _ => 0), (fun _ _ => 0), (fun _ => 0), (gU (fun _ _ => 0) 1000 g67_1), (fun _ => none)))) [0, 1, 2, 3, 4, 5] (by decide) rfl
    exact W.zret (v := g67_0) hx hb hr (gIv_z b67_0) (fun t ht hW => ⟨⟨g67_0, ((fun _ => 0), (fun _ _ => 0), (fun _ => 0), (gU (fun _ _ => 0) 1000 g67_1), (fun _ => none)), rfl, ⟨b67_0, trivial⟩, by rw [ht]; exact hP9, hD9⟩, hS.F ht⟩) hS.2.2 dX5_letsGo_67
  have hB_49 : ∀ (g4_0 : Int32) (x_17 : Int32) (g49_2 : Nat → Int64) (ls : Array Slot) (H : Heap) (locs : List Loc), gIv 0 400 g4_0 → gIv 0 400 x_17 → gIv 1 12 d_cl → gAll 0 400 12 d_seF → gAll 0 400 12 d_teF → va_P G vwCl [(d, .inr (5, [.ref d_st, .ref d_se, .ref d_te, .ref d_sk, .int d_cl, .int d_ln])), (d_st, .inl (k 0, 400, .inl d_stF)), (d_se, .inl (k 0, 12, .inl d_seF)), (d_te, .inl (k 0, 12, .inl d_teF)), (d_sk, .inl (k 1, 64, .inr (.inl g49_2))), (wo, .inl (k 1, 12, .inr (.inl woF)))] H → va_D A [(d, .inr (5, [.ref d_st, .ref d_se, .ref d_te, .ref d_sk, .int d_cl, .int d_ln])), (d_st, .inl (k 0, 400, .inl d_stF)), (d_se, .inl (k 0, 12, .inl d_seF)), (d_te, .inl (k 0, 12, .inl d_teF)), (d_sk, .inl (k 1, 64, .inr (.inl g49_2))), (wo, .inl (k 1, 12, .inr (.inl woF)))] → va_S A s_.heap H locs → lv_has ls 6 [(0, .ref d), (1, .ref wo), (2, .int g4_0), (4, .int x_17)] → W p_ l e_ (headSpec vs_s_X5_letsGo ({ frames := 2, cells := 0, slots := 0, locals := 50 } : Room)).room s_ m [.ref d, .ref wo].toArray below_ meth_ c_ H locs 0 0 (MQ below_ (va_Qi (fun r (u : gS) => (gIv 0 1 r) ∧ True) (gO G A (fun u : gS => [(d, .inr (5, [.ref d_st, .ref d_se, .ref d_te, .ref d_sk, .int d_cl, .int d_ln])), (d_st, .inl (k 0, 400, .inl d_stF)), (d_se, .inl (k 0, 12, .inl d_seF)), (d_te, .inl (k 0, 12, .inl d_teF)), (d_sk, .inl (k 1, 64, .inr (.inl (u.2.2.2.1 1000)))), (wo, .inl (k 1, 12, .inr (.inl woF)))])) A) [.ref d, .ref wo].toArray s_ 0 0 A) (F0 m 49 ls []) := by
    intro g4_0 x_17 g49_2 ls H locs b49_0 b49_1 b49_2 b49_3 b49_4 hP hD hS hl
    refine lv_aload_n hx hb dX5_letsGo_49 rfl (lv_at hl 0 rfl) ?_
    refine lv_iload_n hx hb dX5_letsGo_50 rfl (lv_at hl 2 rfl) ?_
    refine lv_iload hx hb dX5_letsGo_51 (lv_at hl 3 rfl) ?_
    refine lv_aload_n hx hb dX5_letsGo_53 rfl (lv_at hl 1 rfl) ?_
    refine gz_l (wc := [(d, .inr (5, [.ref d_st, .ref d_se, .ref d_te, .ref d_sk, .int d_cl, .int d_ln])), (d_st, .inl (k 0, 400, .inl d_stF)), (d_sk, .inl (k 1, 64, .inr (.inl g49_2))), (wo, .inl (k 1, 12, .inr (.inl woF)))]) (wr := [(d_se, .inl (k 0, 12, .inl d_seF)), (d_te, .inl (k 0, 12, .inl d_teF))]) hP hD hS hA [0, 1, 4, 5] [2, 3] rfl rfl (by decide) (by decide) (va_runV (As := [.int g4_0, .int x_17, .ref wo]) (rest := []) ⟨hx, hb, hml, hown, hts⟩ (s_X5_valueOf l G k sa _ d d_st d_stF d_se d_te d_sk g49_2 d_cl d_ln g4_0 x_17 wo woF (gIv_w (a' := 0) (b' := 12) b49_2 (by decide) (by decide)) h_d_ln b49_0 b49_1) (cwV 3 hts g_s_X5_letsGo_38_s_X5_valueOf rfl rfl rfl (by decide +kernel) ⟨(Nat.le_of_ble_eq_true rfl), (Nat.le_of_ble_eq_true rfl)⟩) ⟨gP.bl, va_recv hE.K hP (ci := 5) (q0 := 0) rfl rfl, (gP.pre (wc := [(d, .inr (5, [.ref d_st, .ref d_se, .ref d_te, .ref d_sk, .int d_cl, .int d_ln])), (d_st, .inl (k 0, 400, .inl d_stF)), (d_sk, .inl (k 1, 64, .inr (.inl g49_2))), (wo, .inl (k 1, 12, .inr (.inl woF)))]) hE hZ hS hA hP hD [0, 1, 4, 5] rfl (by decide))⟩ rfl rfl hl.1 rfl (lv_room (Nat.le_of_ble_eq_true rfl)) dX5_letsGo_54 ⟨(Nat.le_of_ble_eq_true rfl), (Nat.le_of_ble_eq_true rfl)⟩) (fun r_54 u_54 H locs hr_54 hP hD hS => ?_)
    have hP := hP.sub (ws' := [(d, .inr (5, [.ref d_st, .ref d_se, .ref d_te, .ref d_sk, .int d_cl, .int d_ln])), (d_st, .inl (k 0, 400, .inl d_stF)), (d_se, .inl (k 0, 12, .inl d_seF)), (d_te, .inl (k 0, 12, .inl d_teF)), (d_sk, .inl (k 1, 64, .inr (.inl (u_54.2.2.2.1 1000)))), (wo, .inl (k 1, 12, .inr (.inl woF)))]) [2, 3, 0, 1, 4, 5] rfl
    have hD := hD.sub (ws' := [(d, .inr (5, [.ref d_st, .ref d_se, .ref d_te, .ref d_sk, .int d_cl, .int d_ln])), (d_st, .inl (k 0, 400, .inl d_stF)), (d_se, .inl (k 0, 12, .inl d_seF)), (d_te, .inl (k 0, 12, .inl d_teF)), (d_sk, .inl (k 1, 64, .inr (.inl (u_54.2.2.2.1 1000)))), (wo, .inl (k 1, 12, .inr (.inl woF)))]) [2, 3, 0, 1, 4, 5] (by decide) rfl
    refine lv_lconst (v := 0) hx hb dX5_letsGo_57 (by decide) ?_
    refine W.lcmp hx hb dX5_letsGo_58 ?_
    refine lv_topi (fun x_58 ex_58 => ?_)
    have hx_58 : gIv (-1) 1 x_58 := gIv_eq (gIv_cmp _ _) ex_58
    refine lv_if_le (tgt := 66) hx hb dX5_letsGo_59 (by decide) (fun c_59 => ?_) (fun c_59 => ?_)
    · have h59_x_58 : gIv (-1) 0 x_58 := gIv_le_l hx_58 (gIv_of (a := 0) (b := 0) (x := 0) (by decide)) c_59 (by decide)
      refine lv_iconst (v := 0) hx hb dX5_letsGo_66 (by decide) ?_
      exact hB_67 0 (u_54.2.2.2.1 1000) ls H locs (gIv_of (a := 0) (b := 1) (x := 0) (by decide)) b49_2 b49_3 b49_4 hP hD hS (lv_sub hl [] rfl)
    · have h59_x_58 : gIv 1 1 x_58 := gIv_lt_r (gIv_of (a := 0) (b := 0) (x := 0) (by decide)) hx_58 (gz_nle c_59) (by decide)
      refine lv_iconst (v := 1) hx hb dX5_letsGo_62 (by decide) ?_
      refine lv_goto (tgt := 67) hx hb dX5_letsGo_63 (by decide) ?_
      exact hB_67 1 (u_54.2.2.2.1 1000) ls H locs (gIv_of (a := 0) (b := 1) (x := 1) (by decide)) b49_2 b49_3 b49_4 hP hD hS (lv_sub hl [] rfl)
  have hL_4 : ∀ (n : Nat) (g4_0 : Int32) (g4_1 : Int32) (g4_2 : Nat → Int64) (ls : Array Slot) (H : Heap) (locs : List Loc), gIv 0 400 g4_0 → gIv 0 12 g4_1 → gAll 0 400 12 d_seF → gAll 0 400 12 d_teF → (12 - g4_1.toInt).toNat < n → va_P G vwCl [(d, .inr (5, [.ref d_st, .ref d_se, .ref d_te, .ref d_sk, .int d_cl, .int d_ln])), (d_st, .inl (k 0, 400, .inl d_stF)), (d_se, .inl (k 0, 12, .inl d_seF)), (d_te, .inl (k 0, 12, .inl d_teF)), (d_sk, .inl (k 1, 64, .inr (.inl g4_2))), (wo, .inl (k 1, 12, .inr (.inl woF)))] H → va_D A [(d, .inr (5, [.ref d_st, .ref d_se, .ref d_te, .ref d_sk, .int d_cl, .int d_ln])), (d_st, .inl (k 0, 400, .inl d_stF)), (d_se, .inl (k 0, 12, .inl d_seF)), (d_te, .inl (k 0, 12, .inl d_teF)), (d_sk, .inl (k 1, 64, .inr (.inl g4_2))), (wo, .inl (k 1, 12, .inr (.inl woF)))] → va_S A s_.heap H locs → lv_has ls 6 [(0, .ref d), (1, .ref wo), (2, .int g4_0), (3, .int g4_1)] → W p_ l e_ (headSpec vs_s_X5_letsGo ({ frames := 2, cells := 0, slots := 0, locals := 50 } : Room)).room s_ m [.ref d, .ref wo].toArray below_ meth_ c_ H locs 0 0 (MQ below_ (va_Qi (fun r (u : gS) => (gIv 0 1 r) ∧ True) (gO G A (fun u : gS => [(d, .inr (5, [.ref d_st, .ref d_se, .ref d_te, .ref d_sk, .int d_cl, .int d_ln])), (d_st, .inl (k 0, 400, .inl d_stF)), (d_se, .inl (k 0, 12, .inl d_seF)), (d_te, .inl (k 0, 12, .inl d_teF)), (d_sk, .inl (k 1, 64, .inr (.inl (u.2.2.2.1 1000)))), (wo, .inl (k 1, 12, .inr (.inl woF)))])) A) [.ref d, .ref wo].toArray s_ 0 0 A) (F0 m 4 ls []) := by
    intro n
    induction n with
    | zero => intro g4_0 g4_1 g4_2 ls H locs b4_0 b4_1 b4_2 b4_3 hm_4 hP hD hS hl; exact absurd hm_4 (Nat.not_lt_zero _)
    | succ n ih_4 =>
      intro g4_0 g4_1 g4_2 ls H locs b4_0 b4_1 b4_2 b4_3 hm_4 hP hD hS hl
      refine lv_iload_n hx hb dX5_letsGo_4 rfl (lv_at hl 3 rfl) ?_
      refine lv_aload_n hx hb dX5_letsGo_5 rfl (lv_at hl 0 rfl) ?_
      refine va_get (D := G) (ci := 5) (v := .int d_cl) (C := RX5) (T := TX5) (N := 6) hx hb hts j_s_X5_letsGo_5 hown hE.K hP 0 rfl rfl 4 (by decide) (hts (.fieldLink RX5 25 "GossamerGate$Rule" "clauses" "I") (List.mem_cons_of_mem _ (List.mem_append_left _ (List.mem_of_getElem? (i := 0) rfl)))) (fun _ h9 => h9) rfl dX5_letsGo_6 ?_
      refine lv_icmp_ge (tgt := 77) hx hb dX5_letsGo_9 (by decide) (fun c_9 => ?_) (fun c_9 => ?_)
      · refine lv_iconst (v := 0) hx hb dX5_letsGo_77 (by decide) ?_
        have hP9 := hP.sub (ws' := ((fun u : gS => [(d, .inr (5, [.ref d_st, .ref d_se, .ref d_te, .ref d_sk, .int d_cl, .int d_ln])), (d_st, .inl (k 0, 400, .inl d_stF)), (d_se, .inl (k 0, 12, .inl d_seF)), (d_te, .inl (k 0, 12, .inl d_teF)), (d_sk, .inl (k 1, 64, .inr (.inl (u.2.2.2.1 1000)))), (wo, .inl (k 1, 12, .inr (.inl woF)))]) ((fun _ => 0), (fun _ _ => 0), (fun _ => 0), (gU (fun _ _ => 0) 1000 g4_2), (fun _ => none)))) [0, 1, 2, 3, 4, 5] rfl
        have hD9 := hD.sub (ws' := ((fun u : gS => [(d, .inr (5, [.ref d_st, .ref d_se, .ref d_te, .ref d_sk, .int d_cl, .int d_ln])), (d_st, .inl (k 0, 400, .inl d_stF)), (d_se, .inl (k 0, 12, .inl d_seF)), (d_te, .inl (k 0, 12, .inl d_teF)), (d_sk, .inl (k 1, 64, .inr (.inl (u.2.2.2.1 1000)))), (wo, .inl (k 1, 12, .inr (.inl woF)))]) ((fun _ => 0), (fun _ _ => 0), (fun _ => 0), (gU (fun _ _ => 0) 1000 g4_2), (fun _ => none)))) [0, 1, 2, 3, 4, 5] (by decide) rfl
        exact W.zret (v := 0) hx hb hr (by decide) (fun t ht hW => ⟨⟨0, ((fun _ => 0), (fun _ _ => 0), (fun _ => 0), (gU (fun _ _ => 0) 1000 g4_2), (fun _ => none)), rfl, ⟨(gIv_of (a := 0) (b := 1) (x := 0) (by decide)), trivial⟩, by rw [ht]; exact hP9, hD9⟩, hS.F ht⟩) hS.2.2 dX5_letsGo_78
      · have h9_g4_1 : gIv 0 11 g4_1 := gIv_lt_l b4_1 h_d_cl (gz_nle c_9) (by decide)
        have h9_d_cl : gIv 1 12 d_cl := gIv_lt_r b4_1 h_d_cl (gz_nle c_9) (by decide)
        refine lv_aload_n hx hb dX5_letsGo_12 rfl (lv_at hl 0 rfl) ?_
        refine va_get (D := G) (ci := 5) (v := .ref d_se) (C := RX5) (T := TX5) (N := 6) hx hb hts j_s_X5_letsGo_5 hown hE.K hP 0 rfl rfl 1 (by decide) (hts (.fieldLink RX5 15 "GossamerGate$Rule" "sumEnds" "[I") (List.mem_cons_of_mem _ (List.mem_append_left _ (List.mem_of_getElem? (i := 1) rfl)))) (fun _ h9 => h9) rfl dX5_letsGo_13 ?_
        refine lv_iload_n hx hb dX5_letsGo_16 rfl (lv_at hl 3 rfl) ?_
        refine va_iald hx hb hE.K hP 2 0 rfl rfl (gIv_in (gIv_w h9_g4_1 (by decide) (by decide) : gIv 0 11 g4_1) (by decide)) dX5_letsGo_17 ?_
        refine lv_topi (fun x_17 ex_17 => ?_)
        have hx_17 : gIv 0 400 x_17 := gIv_eq (gAll_at b4_2 (gIv_in (gIv_w h9_g4_1 (by decide) (by decide) : gIv 0 11 g4_1) (by decide))) ex_17
        refine lv_istore (lv' := [(4, .int x_17), (0, .ref d), (1, .ref wo), (2, .int g4_0), (3, .int g4_1)]) hx hb dX5_letsGo_18 hl (by decide) rfl (fun ls hl => ?_)
        refine lv_aload_n hx hb dX5_letsGo_20 rfl (lv_at hl 1 rfl) ?_
        refine va_get (D := G) (ci := 5) (v := .ref d_te) (C := RX5) (T := TX5) (N := 6) hx hb hts j_s_X5_letsGo_5 hown hE.K hP 0 rfl rfl 2 (by decide) (hts (.fieldLink RX5 18 "GossamerGate$Rule" "testEnds" "[I") (List.mem_cons_of_mem _ (List.mem_append_left _ (List.mem_of_getElem? (i := 2) rfl)))) (fun _ h9 => h9) rfl dX5_letsGo_21 ?_
        refine lv_iload_n hx hb dX5_letsGo_24 rfl (lv_at hl 4 rfl) ?_
        refine va_iald hx hb hE.K hP 3 0 rfl rfl (gIv_in (gIv_w h9_g4_1 (by decide) (by decide) : gIv 0 11 g4_1) (by decide)) dX5_letsGo_25 ?_
        refine lv_topi (fun x_25 ex_25 => ?_)
        have hx_25 : gIv 0 400 x_25 := gIv_eq (gAll_at b4_3 (gIv_in (gIv_w h9_g4_1 (by decide) (by decide) : gIv 0 11 g4_1) (by decide))) ex_25
        refine lv_istore (lv' := [(5, .int x_25), (4, .int x_17), (0, .ref d), (1, .ref wo), (2, .int g4_0), (3, .int g4_1)]) hx hb dX5_letsGo_26 hl (by decide) rfl (fun ls hl => ?_)
        refine lv_iload hx hb dX5_letsGo_28 (lv_at hl 1 rfl) ?_
        refine lv_iload hx hb dX5_letsGo_30 (lv_at hl 0 rfl) ?_
        refine lv_icmp_eq (tgt := 49) hx hb dX5_letsGo_32 (by decide) (fun c_32 => ?_) (fun c_32 => ?_)
        · exact hB_49 g4_0 x_17 g4_2 ls H locs b4_0 hx_17 h9_d_cl b4_2 b4_3 hP hD hS (lv_sub hl [2, 3, 4, 1] rfl)
        · refine lv_aload_n hx hb dX5_letsGo_35 rfl (lv_at hl 2 rfl) ?_
          refine lv_iload hx hb dX5_letsGo_36 (lv_at hl 1 rfl) ?_
          refine lv_iload hx hb dX5_letsGo_38 (lv_at hl 0 rfl) ?_
          refine lv_aload_n hx hb dX5_letsGo_40 rfl (lv_at hl 3 rfl) ?_
          refine gz_l (wc := [(d, .inr (5, [.ref d_st, .ref d_se, .ref d_te, .ref d_sk, .int d_cl, .int d_ln])), (d_st, .inl (k 0, 400, .inl d_stF)), (d_sk, .inl (k 1, 64, .inr (.inl g4_2))), (wo, .inl (k 1, 12, .inr (.inl woF)))]) (wr := [(d_se, .inl (k 0, 12, .inl d_seF)), (d_te, .inl (k 0, 12, .inl d_teF))]) hP hD hS hA [0, 1, 4, 5] [2, 3] rfl rfl (by decide) (by decide) (va_runV (As := [.int x_17, .int x_25, .ref wo]) (rest := []) ⟨hx, hb, hml, hown, hts⟩ (s_X5_valueOf l G k sa _ d d_st d_stF d_se d_te d_sk g4_2 d_cl d_ln x_17 x_25 wo woF (gIv_w (a' := 0) (b' := 12) h9_d_cl (by decide) (by decide)) h_d_ln hx_17 hx_25) (cwV 3 hts g_s_X5_letsGo_38_s_X5_valueOf rfl rfl rfl (by decide +kernel) ⟨(Nat.le_of_ble_eq_true rfl), (Nat.le_of_ble_eq_true rfl)⟩) ⟨gP.bl, va_recv hE.K hP (ci := 5) (q0 := 0) rfl rfl, (gP.pre (wc := [(d, .inr (5, [.ref d_st, .ref d_se, .ref d_te, .ref d_sk, .int d_cl, .int d_ln])), (d_st, .inl (k 0, 400, .inl d_stF)), (d_sk, .inl (k 1, 64, .inr (.inl g4_2))), (wo, .inl (k 1, 12, .inr (.inl woF)))]) hE hZ hS hA hP hD [0, 1, 4, 5] rfl (by decide))⟩ rfl rfl hl.1 rfl (lv_room (Nat.le_of_ble_eq_true rfl)) dX5_letsGo_41 ⟨(Nat.le_of_ble_eq_true rfl), (Nat.le_of_ble_eq_true rfl)⟩) (fun r_41 u_41 H locs hr_41 hP hD hS => ?_)
          have hP := hP.sub (ws' := [(d, .inr (5, [.ref d_st, .ref d_se, .ref d_te, .ref d_sk, .int d_cl, .int d_ln])), (d_st, .inl (k 0, 400, .inl d_stF)), (d_se, .inl (k 0, 12, .inl d_seF)), (d_te, .inl (k 0, 12, .inl d_teF)), (d_sk, .inl (k 1, 64, .inr (.inl (u_41.2.2.2.1 1000)))), (wo, .inl (k 1, 12, .inr (.inl woF)))]) [2, 3, 0, 1, 4, 5] rfl
          have hD := hD.sub (ws' := [(d, .inr (5, [.ref d_st, .ref d_se, .ref d_te, .ref d_sk, .int d_cl, .int d_ln])), (d_st, .inl (k 0, 400, .inl d_stF)), (d_se, .inl (k 0, 12, .inl d_seF)), (d_te, .inl (k 0, 12, .inl d_teF)), (d_sk, .inl (k 1, 64, .inr (.inl (u_41.2.2.2.1 1000)))), (wo, .inl (k 1, 12, .inr (.inl woF)))]) [2, 3, 0, 1, 4, 5] (by decide) rfl
          refine lv_lconst (v := 0) hx hb dX5_letsGo_44 (by decide) ?_
          refine W.lcmp hx hb dX5_letsGo_45 ?_
          refine lv_topi (fun x_45 ex_45 => ?_)
          have hx_45 : gIv (-1) 1 x_45 := gIv_eq (gIv_cmp _ _) ex_45
          refine lv_if_eq (tgt := 68) hx hb dX5_letsGo_46 (by decide) (fun c_46 => ?_) (fun c_46 => ?_)
          · have h46_x_45 : gIv 0 0 x_45 := gIv_eqc hx_45 (gIv_of (a := 0) (b := 0) (x := 0) (by decide)) c_46 (by decide)
            refine lv_iload hx hb dX5_letsGo_68 (lv_at hl 0 rfl) ?_
            refine lv_istore_n (lv' := [(2, .int x_25), (5, .int x_25), (4, .int x_17), (0, .ref d), (1, .ref wo), (3, .int g4_1)]) hx hb dX5_letsGo_70 rfl hl (by decide) rfl (fun ls hl => ?_)
            obtain ⟨x_71, ex_71⟩ : ∃ y : Int32, y = g4_1 + 1 := ⟨_, rfl⟩
            refine lv_iinc (v := x_71) (lv' := [(3, .int x_71), (2, .int x_25), (5, .int x_25), (4, .int x_17), (0, .ref d), (1, .ref wo)]) hx hb dX5_letsGo_71 hl (k := 5) rfl (by rw [ex_71]; rfl) (by decide) rfl (fun ls hl => ?_)
            have hx_71 : gIv 1 12 x_71 := gIv_eq (gIv_add h9_g4_1 (gIv_of (a := 1) (b := 1) (by decide)) (by decide) (by decide)) ex_71
            have ix_71 : x_71.toInt = g4_1.toInt + 1 := gI_add ex_71 h9_g4_1 (by decide) (by decide)
            refine lv_goto (tgt := 4) hx hb dX5_letsGo_74 (by decide) ?_
            exact ih_4 x_25 x_71 (u_41.2.2.2.1 1000) ls H locs hx_25 (gIv_w (a' := 0) (b' := 12) hx_71 (by decide) (by decide)) b4_2 b4_3 (gM_up ix_71 ((gIv_w (a' := 0) (b' := 12) hx_71 (by decide) (by decide))).2 hm_4 (by decide)) hP hD hS (lv_sub hl [4, 5, 1, 0] rfl)
          · exact hB_49 g4_0 x_17 (u_41.2.2.2.1 1000) ls H locs b4_0 hx_17 h9_d_cl b4_2 b4_3 hP hD hS (lv_sub hl [2, 3, 4, 1] rfl)
  refine lv_iconst (v := 0) hx hb dX5_letsGo_0 (by decide) ?_
  refine lv_istore_n (lv' := [(2, .int 0), (0, .ref d), (1, .ref wo)]) hx hb dX5_letsGo_1 rfl hl (by decide) rfl (fun ls hl => ?_)
  refine lv_iconst (v := 0) hx hb dX5_letsGo_2 (by decide) ?_
  refine lv_istore_n (lv' := [(3, .int 0), (2, .int 0), (0, .ref d), (1, .ref wo)]) hx hb dX5_letsGo_3 rfl hl (by decide) rfl (fun ls hl => ?_)
  exact hL_4 _ 0 0 d_skF ls _ _ (gIv_of (a := 0) (b := 400) (x := 0) (by decide)) (gIv_of (a := 0) (b := 12) (x := 0) (by decide)) a_d_seF a_d_teF (Nat.lt_succ_self _) hP hD hS (lv_sub hl [2, 3, 1, 0] rfl)
