theorem ltw_195 : (.fieldLink RJ0 38 "java/lang/String" "COMPACT_STRINGS" "Z" : Cond) ∈ lw_tbl := (List.mem_append_right _ (List.mem_append_right _ (List.mem_append_left _ (List.mem_of_getElem? (l := tables_1_2) (i := 209) (by decide +kernel)))))
theorem ltw_196 : (.fieldLink RJ0 15 "java/lang/String" "coder" "B" : Cond) ∈ lw_tbl := (List.mem_append_right _ (List.mem_append_right _ (List.mem_append_right _ (List.mem_append_right _ (List.mem_append_right _ (List.mem_append_right _ (List.mem_append_right _ (List.mem_of_getElem? (l := tables_1_7) (i := 221) (by decide +kernel)))))))))
theorem ltw_197 : (.code yJ0_coder_7d493 cJ0_coder_7d493 1 (some .byte) : Cond) ∈ lw_tbl := (List.mem_append_right _ (List.mem_append_right _ (List.mem_append_left _ (List.mem_of_getElem? (l := tables_1_2) (i := 208) (by decide +kernel)))))
theorem ltw_198 : (.code yJ0_isLatin1_aae02 cJ0_isLatin1_aae02 1 (some .boolean) : Cond) ∈ lw_tbl := (List.mem_append_right _ (List.mem_append_right _ (List.mem_append_left _ (List.mem_of_getElem? (l := tables_1_2) (i := 218) (by decide +kernel)))))
theorem ltw_199 : (.fieldLink RJ0 9 "java/lang/String" "value" "[B" : Cond) ∈ lw_tbl := (List.mem_append_right _ (List.mem_append_right _ (List.mem_append_right _ (List.mem_append_right _ (List.mem_append_right _ (List.mem_append_right _ (List.mem_append_right _ (List.mem_of_getElem? (l := tables_1_7) (i := 220) (by decide +kernel)))))))))
theorem ltw_200 : (.methodLink RJ0 335 yJ0_coder_7d493 : Cond) ∈ lw_tbl := (List.mem_append_right _ (List.mem_append_right _ (List.mem_append_left _ (List.mem_of_getElem? (l := tables_1_2) (i := 205) (by decide +kernel)))))
theorem ltw_201 : (.instanceMethod yJ0_coder_7d493 : Cond) ∈ lw_tbl := (List.mem_append_right _ (List.mem_append_right _ (List.mem_append_left _ (List.mem_of_getElem? (l := tables_1_2) (i := 206) (by decide +kernel)))))
theorem ltw_202 : (.selects RJ0 yJ0_coder_7d493 yJ0_coder_7d493 : Cond) ∈ lw_tbl := (List.mem_append_right _ (List.mem_append_right _ (List.mem_append_left _ (List.mem_of_getElem? (l := tables_1_2) (i := 207) (by decide +kernel)))))
theorem ltw_203 : (.initialized RJ0 : Cond) ∈ lw_tbl := (List.mem_append_right _ (List.mem_append_left _ (List.mem_of_getElem? (l := tables_1_1) (i := 13) (by decide +kernel))))
theorem ltw_204 : (.code yJ0_length_8abf5 cJ0_length_8abf5 1 (some .int) : Cond) ∈ lw_tbl := (List.mem_append_right _ (List.mem_append_right _ (List.mem_append_left _ (List.mem_of_getElem? (l := tables_1_2) (i := 204) (by decide +kernel)))))
theorem ltw_205 : (.code yJ3_checkIndex_8e157 cJ3_checkIndex_8e157 3 (some .int) : Cond) ∈ lw_tbl := (List.mem_append_right _ (List.mem_append_right _ (List.mem_append_left _ (List.mem_of_getElem? (l := tables_1_2) (i := 229) (by decide +kernel)))))
theorem ltw_206 : (.fieldLink RJ0 1053 "jdk/internal/util/Preconditions" "SIOOBE_FORMATTER" "Ljava/util/function/BiFunction;" : Cond) ∈ lw_tbl := (List.mem_append_right _ (List.mem_append_right _ (List.mem_append_left _ (List.mem_of_getElem? (l := tables_1_2) (i := 225) (by decide +kernel)))))
theorem ltw_207 : (.methodLink RJ0 1059 yJ3_checkIndex_8e157 : Cond) ∈ lw_tbl := (List.mem_append_right _ (List.mem_append_right _ (List.mem_append_left _ (List.mem_of_getElem? (l := tables_1_2) (i := 227) (by decide +kernel)))))
theorem ltw_208 : (.static yJ3_checkIndex_8e157 : Cond) ∈ lw_tbl := (List.mem_append_right _ (List.mem_append_right _ (List.mem_append_left _ (List.mem_of_getElem? (l := tables_1_2) (i := 228) (by decide +kernel)))))
theorem ltw_209 : (.initialized RJ3 : Cond) ∈ lw_tbl := (List.mem_append_right _ (List.mem_append_left _ (List.mem_of_getElem? (l := tables_1_1) (i := 15) (by decide +kernel))))
theorem ltw_210 : (.code yJ0_checkIndex_df160 cJ0_checkIndex_df160 2 none : Cond) ∈ lw_tbl := (List.mem_append_right _ (List.mem_append_right _ (List.mem_append_left _ (List.mem_of_getElem? (l := tables_1_2) (i := 224) (by decide +kernel)))))
theorem ltw_211 : (.methodLink RJ1 9 yJ0_checkIndex_df160 : Cond) ∈ lw_tbl := (List.mem_append_right _ (List.mem_append_right _ (List.mem_append_left _ (List.mem_of_getElem? (l := tables_1_2) (i := 222) (by decide +kernel)))))
theorem ltw_212 : (.static yJ0_checkIndex_df160 : Cond) ∈ lw_tbl := (List.mem_append_right _ (List.mem_append_right _ (List.mem_append_left _ (List.mem_of_getElem? (l := tables_1_2) (i := 223) (by decide +kernel)))))
theorem ltw_213 : (.code yJ1_charAt_3b067 cJ1_charAt_3b067 2 (some .char) : Cond) ∈ lw_tbl := (List.mem_append_right _ (List.mem_append_right _ (List.mem_append_left _ (List.mem_of_getElem? (l := tables_1_2) (i := 221) (by decide +kernel)))))
theorem ltw_214 : (.methodLink RJ0 492 yJ0_isLatin1_aae02 : Cond) ∈ lw_tbl := (List.mem_append_right _ (List.mem_append_right _ (List.mem_append_left _ (List.mem_of_getElem? (l := tables_1_2) (i := 215) (by decide +kernel)))))
theorem ltw_215 : (.instanceMethod yJ0_isLatin1_aae02 : Cond) ∈ lw_tbl := (List.mem_append_right _ (List.mem_append_right _ (List.mem_append_left _ (List.mem_of_getElem? (l := tables_1_2) (i := 216) (by decide +kernel)))))
theorem ltw_216 : (.selects RJ0 yJ0_isLatin1_aae02 yJ0_isLatin1_aae02 : Cond) ∈ lw_tbl := (List.mem_append_right _ (List.mem_append_right _ (List.mem_append_left _ (List.mem_of_getElem? (l := tables_1_2) (i := 217) (by decide +kernel)))))
theorem ltw_217 : (.methodLink RJ0 495 yJ1_charAt_3b067 : Cond) ∈ lw_tbl := (List.mem_append_right _ (List.mem_append_right _ (List.mem_append_left _ (List.mem_of_getElem? (l := tables_1_2) (i := 219) (by decide +kernel)))))
theorem ltw_218 : (.static yJ1_charAt_3b067 : Cond) ∈ lw_tbl := (List.mem_append_right _ (List.mem_append_right _ (List.mem_append_left _ (List.mem_of_getElem? (l := tables_1_2) (i := 220) (by decide +kernel)))))
theorem ltw_219 : (.initialized RJ1 : Cond) ∈ lw_tbl := (List.mem_append_right _ (List.mem_append_left _ (List.mem_of_getElem? (l := tables_1_1) (i := 14) (by decide +kernel))))
theorem ltw_220 : (.code yJ0_charAt_5068e cJ0_charAt_5068e 2 (some .char) : Cond) ∈ lw_tbl := (List.mem_append_right _ (List.mem_append_right _ (List.mem_append_left _ (List.mem_of_getElem? (l := tables_1_2) (i := 214) (by decide +kernel)))))
def vs_s_coder : List Cond := .code yJ0_coder_7d493 cJ0_coder_7d493 1 (some .byte) :: ([.fieldLink RJ0 38 "java/lang/String" "COMPACT_STRINGS" "Z", .fieldLink RJ0 15 "java/lang/String" "coder" "B"] ++ [])
theorem gw_s_coder : gGood vs_s_coder := gGood_co (gGood_of (by decide +kernel)) gGood_nil
theorem il_s_coder : ∀ w ∈ vs_s_coder, w ∈ lw_tbl := List.forall_mem_cons.mpr ⟨ltw_197, List.forall_mem_append.mpr ⟨List.forall_mem_cons.mpr ⟨ltw_195, List.forall_mem_cons.mpr ⟨ltw_196, fun _ h => absurd h List.not_mem_nil⟩⟩, fun _ h => absurd h List.not_mem_nil⟩⟩
def vs_s_isLatin1 : List Cond := .code yJ0_isLatin1_aae02 cJ0_isLatin1_aae02 1 (some .boolean) :: ([.fieldLink RJ0 38 "java/lang/String" "COMPACT_STRINGS" "Z", .fieldLink RJ0 15 "java/lang/String" "coder" "B"] ++ [])
theorem gw_s_isLatin1 : gGood vs_s_isLatin1 := gGood_co (gGood_of (by decide +kernel)) gGood_nil
theorem il_s_isLatin1 : ∀ w ∈ vs_s_isLatin1, w ∈ lw_tbl := List.forall_mem_cons.mpr ⟨ltw_198, List.forall_mem_append.mpr ⟨List.forall_mem_cons.mpr ⟨ltw_195, List.forall_mem_cons.mpr ⟨ltw_196, fun _ h => absurd h List.not_mem_nil⟩⟩, fun _ h => absurd h List.not_mem_nil⟩⟩
def vs_s_length : List Cond := .code yJ0_length_8abf5 cJ0_length_8abf5 1 (some .int) :: ([.fieldLink RJ0 9 "java/lang/String" "value" "[B", .methodLink RJ0 335 yJ0_coder_7d493, .instanceMethod yJ0_coder_7d493, .selects RJ0 yJ0_coder_7d493 yJ0_coder_7d493, .initialized RJ0] ++ (vs_s_coder ++ []))
theorem gw_s_length : gGood vs_s_length := gGood_co (gGood_of (by decide +kernel)) (gGood_app gw_s_coder gGood_nil)
theorem il_s_length : ∀ w ∈ vs_s_length, w ∈ lw_tbl := List.forall_mem_cons.mpr ⟨ltw_204, List.forall_mem_append.mpr ⟨List.forall_mem_cons.mpr ⟨ltw_199, List.forall_mem_cons.mpr ⟨ltw_200, List.forall_mem_cons.mpr ⟨ltw_201, List.forall_mem_cons.mpr ⟨ltw_202, List.forall_mem_cons.mpr ⟨ltw_203, fun _ h => absurd h List.not_mem_nil⟩⟩⟩⟩⟩, (List.forall_mem_append.mpr ⟨il_s_coder, fun _ h => absurd h List.not_mem_nil⟩)⟩⟩
theorem g_s_length_335_s_coder : GoodIn vs_s_length (wsV RJ0 335 RJ0 yJ0_coder_7d493 vs_s_coder) := gz_gi (List.forall_mem_append.mpr ⟨List.forall_mem_cons.mpr ⟨(List.mem_cons_of_mem _ (List.mem_append_left _ (List.mem_of_getElem? (i := 1) rfl))), List.forall_mem_cons.mpr ⟨(List.mem_cons_of_mem _ (List.mem_append_left _ (List.mem_of_getElem? (i := 2) rfl))), List.forall_mem_cons.mpr ⟨(List.mem_cons_of_mem _ (List.mem_append_left _ (List.mem_of_getElem? (i := 3) rfl))), List.forall_mem_cons.mpr ⟨(List.mem_cons_of_mem _ (List.mem_append_left _ (List.mem_of_getElem? (i := 4) rfl))), fun _ h => absurd h List.not_mem_nil⟩⟩⟩⟩, (fun w h => (List.mem_cons_of_mem _ (List.mem_append_right _ (List.mem_append_left _ h))))⟩) (gGood_app (gGood_of (by decide +kernel)) gw_s_coder)
def vs_s_checkP_n : List Cond := .code yJ3_checkIndex_8e157 cJ3_checkIndex_8e157 3 (some .int) :: ([] ++ [])
theorem gw_s_checkP_n : gGood vs_s_checkP_n := gGood_co (gGood_of (by decide +kernel)) gGood_nil
theorem il_s_checkP_n : ∀ w ∈ vs_s_checkP_n, w ∈ lw_tbl := List.forall_mem_cons.mpr ⟨ltw_205, List.forall_mem_append.mpr ⟨fun _ h => absurd h List.not_mem_nil, fun _ h => absurd h List.not_mem_nil⟩⟩
def vs_s_checkP_r : List Cond := .code yJ3_checkIndex_8e157 cJ3_checkIndex_8e157 3 (some .int) :: ([] ++ [])
theorem gw_s_checkP_r : gGood vs_s_checkP_r := gGood_co (gGood_of (by decide +kernel)) gGood_nil
theorem il_s_checkP_r : ∀ w ∈ vs_s_checkP_r, w ∈ lw_tbl := List.forall_mem_cons.mpr ⟨ltw_205, List.forall_mem_append.mpr ⟨fun _ h => absurd h List.not_mem_nil, fun _ h => absurd h List.not_mem_nil⟩⟩
def vs_s_checkS : List Cond := .code yJ0_checkIndex_df160 cJ0_checkIndex_df160 2 none :: ([.fieldLink RJ0 1053 "jdk/internal/util/Preconditions" "SIOOBE_FORMATTER" "Ljava/util/function/BiFunction;", .methodLink RJ0 1059 yJ3_checkIndex_8e157, .static yJ3_checkIndex_8e157, .initialized RJ3] ++ (vs_s_checkP_n ++ (vs_s_checkP_r ++ [])))
theorem gw_s_checkS : gGood vs_s_checkS := gGood_co (gGood_of (by decide +kernel)) (gGood_app gw_s_checkP_n (gGood_app gw_s_checkP_r gGood_nil))
theorem il_s_checkS : ∀ w ∈ vs_s_checkS, w ∈ lw_tbl := List.forall_mem_cons.mpr ⟨ltw_210, List.forall_mem_append.mpr ⟨List.forall_mem_cons.mpr ⟨ltw_206, List.forall_mem_cons.mpr ⟨ltw_207, List.forall_mem_cons.mpr ⟨ltw_208, List.forall_mem_cons.mpr ⟨ltw_209, fun _ h => absurd h List.not_mem_nil⟩⟩⟩⟩, (List.forall_mem_append.mpr ⟨il_s_checkP_n, (List.forall_mem_append.mpr ⟨il_s_checkP_r, fun _ h => absurd h List.not_mem_nil⟩)⟩)⟩⟩
theorem g_s_checkS_1059_s_checkP_n : GoodIn vs_s_checkS (va_wsS RJ0 1059 yJ3_checkIndex_8e157 vs_s_checkP_n) := gz_gi (List.forall_mem_append.mpr ⟨List.forall_mem_cons.mpr ⟨(List.mem_cons_of_mem _ (List.mem_append_left _ (List.mem_of_getElem? (i := 1) rfl))), List.forall_mem_cons.mpr ⟨(List.mem_cons_of_mem _ (List.mem_append_left _ (List.mem_of_getElem? (i := 2) rfl))), List.forall_mem_cons.mpr ⟨(List.mem_cons_of_mem _ (List.mem_append_left _ (List.mem_of_getElem? (i := 3) rfl))), fun _ h => absurd h List.not_mem_nil⟩⟩⟩, (fun w h => (List.mem_cons_of_mem _ (List.mem_append_right _ (List.mem_append_left _ h))))⟩) (gGood_app (gGood_of (by decide +kernel)) gw_s_checkP_n)
theorem g_s_checkS_1059_s_checkP_r : GoodIn vs_s_checkS (va_wsS RJ0 1059 yJ3_checkIndex_8e157 vs_s_checkP_r) := gz_gi (List.forall_mem_append.mpr ⟨List.forall_mem_cons.mpr ⟨(List.mem_cons_of_mem _ (List.mem_append_left _ (List.mem_of_getElem? (i := 1) rfl))), List.forall_mem_cons.mpr ⟨(List.mem_cons_of_mem _ (List.mem_append_left _ (List.mem_of_getElem? (i := 2) rfl))), List.forall_mem_cons.mpr ⟨(List.mem_cons_of_mem _ (List.mem_append_left _ (List.mem_of_getElem? (i := 3) rfl))), fun _ h => absurd h List.not_mem_nil⟩⟩⟩, (fun w h => (List.mem_cons_of_mem _ (List.mem_append_right _ (List.mem_append_right _ (List.mem_append_left _ h)))))⟩) (gGood_app (gGood_of (by decide +kernel)) gw_s_checkP_r)
def vs_s_charAtL : List Cond := .code yJ1_charAt_3b067 cJ1_charAt_3b067 2 (some .char) :: ([.methodLink RJ1 9 yJ0_checkIndex_df160, .static yJ0_checkIndex_df160, .initialized RJ0] ++ (vs_s_checkS ++ []))
theorem gw_s_charAtL : gGood vs_s_charAtL := gGood_co (gGood_of (by decide +kernel)) (gGood_app gw_s_checkS gGood_nil)
theorem il_s_charAtL : ∀ w ∈ vs_s_charAtL, w ∈ lw_tbl := List.forall_mem_cons.mpr ⟨ltw_213, List.forall_mem_append.mpr ⟨List.forall_mem_cons.mpr ⟨ltw_211, List.forall_mem_cons.mpr ⟨ltw_212, List.forall_mem_cons.mpr ⟨ltw_203, fun _ h => absurd h List.not_mem_nil⟩⟩⟩, (List.forall_mem_append.mpr ⟨il_s_checkS, fun _ h => absurd h List.not_mem_nil⟩)⟩⟩
theorem g_s_charAtL_9_s_checkS : GoodIn vs_s_charAtL (va_wsS RJ1 9 yJ0_checkIndex_df160 vs_s_checkS) := gz_gi (List.forall_mem_append.mpr ⟨List.forall_mem_cons.mpr ⟨(List.mem_cons_of_mem _ (List.mem_append_left _ (List.mem_of_getElem? (i := 0) rfl))), List.forall_mem_cons.mpr ⟨(List.mem_cons_of_mem _ (List.mem_append_left _ (List.mem_of_getElem? (i := 1) rfl))), List.forall_mem_cons.mpr ⟨(List.mem_cons_of_mem _ (List.mem_append_left _ (List.mem_of_getElem? (i := 2) rfl))), fun _ h => absurd h List.not_mem_nil⟩⟩⟩, (fun w h => (List.mem_cons_of_mem _ (List.mem_append_right _ (List.mem_append_left _ h))))⟩) (gGood_app (gGood_of (by decide +kernel)) gw_s_checkS)
def vs_s_charAt : List Cond := .code yJ0_charAt_5068e cJ0_charAt_5068e 2 (some .char) :: ([.methodLink RJ0 492 yJ0_isLatin1_aae02, .instanceMethod yJ0_isLatin1_aae02, .selects RJ0 yJ0_isLatin1_aae02 yJ0_isLatin1_aae02, .initialized RJ0, .fieldLink RJ0 9 "java/lang/String" "value" "[B", .methodLink RJ0 495 yJ1_charAt_3b067, .static yJ1_charAt_3b067, .initialized RJ1] ++ (vs_s_isLatin1 ++ (vs_s_charAtL ++ [])))
theorem gw_s_charAt : gGood vs_s_charAt := gGood_co (gGood_of (by decide +kernel)) (gGood_app gw_s_isLatin1 (gGood_app gw_s_charAtL gGood_nil))
theorem il_s_charAt : ∀ w ∈ vs_s_charAt, w ∈ lw_tbl := List.forall_mem_cons.mpr ⟨ltw_220, List.forall_mem_append.mpr ⟨List.forall_mem_cons.mpr ⟨ltw_214, List.forall_mem_cons.mpr ⟨ltw_215, List.forall_mem_cons.mpr ⟨ltw_216, List.forall_mem_cons.mpr ⟨ltw_203, List.forall_mem_cons.mpr ⟨ltw_199, List.forall_mem_cons.mpr ⟨ltw_217, List.forall_mem_cons.mpr ⟨ltw_218, List.forall_mem_cons.mpr ⟨ltw_219, fun _ h => absurd h List.not_mem_nil⟩⟩⟩⟩⟩⟩⟩⟩, (List.forall_mem_append.mpr ⟨il_s_isLatin1, (List.forall_mem_append.mpr ⟨il_s_charAtL, fun _ h => absurd h List.not_mem_nil⟩)⟩)⟩⟩
theorem g_s_charAt_492_s_isLatin1 : GoodIn vs_s_charAt (wsV RJ0 492 RJ0 yJ0_isLatin1_aae02 vs_s_isLatin1) := gz_gi (List.forall_mem_append.mpr ⟨List.forall_mem_cons.mpr ⟨(List.mem_cons_of_mem _ (List.mem_append_left _ (List.mem_of_getElem? (i := 0) rfl))), List.forall_mem_cons.mpr ⟨(List.mem_cons_of_mem _ (List.mem_append_left _ (List.mem_of_getElem? (i := 1) rfl))), List.forall_mem_cons.mpr ⟨(List.mem_cons_of_mem _ (List.mem_append_left _ (List.mem_of_getElem? (i := 2) rfl))), List.forall_mem_cons.mpr ⟨(List.mem_cons_of_mem _ (List.mem_append_left _ (List.mem_of_getElem? (i := 3) rfl))), fun _ h => absurd h List.not_mem_nil⟩⟩⟩⟩, (fun w h => (List.mem_cons_of_mem _ (List.mem_append_right _ (List.mem_append_left _ h))))⟩) (gGood_app (gGood_of (by decide +kernel)) gw_s_isLatin1)
theorem g_s_charAt_495_s_charAtL : GoodIn vs_s_charAt (va_wsS RJ0 495 yJ1_charAt_3b067 vs_s_charAtL) := gz_gi (List.forall_mem_append.mpr ⟨List.forall_mem_cons.mpr ⟨(List.mem_cons_of_mem _ (List.mem_append_left _ (List.mem_of_getElem? (i := 5) rfl))), List.forall_mem_cons.mpr ⟨(List.mem_cons_of_mem _ (List.mem_append_left _ (List.mem_of_getElem? (i := 6) rfl))), List.forall_mem_cons.mpr ⟨(List.mem_cons_of_mem _ (List.mem_append_left _ (List.mem_of_getElem? (i := 7) rfl))), fun _ h => absurd h List.not_mem_nil⟩⟩⟩, (fun w h => (List.mem_cons_of_mem _ (List.mem_append_right _ (List.mem_append_right _ (List.mem_append_left _ h)))))⟩) (gGood_app (gGood_of (by decide +kernel)) gw_s_charAtL)
set_option maxHeartbeats 4000000 in
set_option maxRecDepth 100000 in
theorem s_coder (l : Launch) (G : va_G) (k : Nat → ClassId) (sa : Nat → Nat) (si : Nat) (hsi : si < 7) : Met l yJ0_coder_7d493 vs_s_coder ({ frames := 0, cells := 0, slots := 0, locals := 0 } : Room) (gR G k sa [.ref (sa si)] []) (vp_Si (fun r => (r = 0 ∧ True))) 0 0 (fun _ => False) := by
  refine gz_metR (cc := cJ0_coder_7d493) (maxL := 1) (ret := (some .byte)) (by decide) rfl (Nat.le_of_ble_eq_true rfl) ?_
  intro p_ e_ s_ m below_ meth_ c_ ls hx hb hr hml hts hown hlocks hP hE hZ hS hl
  have hl : lv_has ls 1 [(0, .ref (sa si))] := hl
  refine va_gets hx hb hZ.2.1 hS hown (hts (.fieldLink RJ0 38 "java/lang/String" "COMPACT_STRINGS" "Z") (List.mem_cons_of_mem _ (List.mem_append_left _ (List.mem_of_getElem? (i := 0) rfl)))) (fun _ h9 => h9) dJ0_coder_7d493_0 ?_
  refine lv_if_eq (tgt := 13) hx hb dJ0_coder_7d493_3 (by decide) (fun c_3 => ?_) (fun c_3 => ?_)
  · exact absurd c_3 (gIv_neq (gIv_of (a := 1) (b := 1) (x := 1) (by decide)) (gIv_of (a := 0) (b := 0) (x := 0) (by decide)) (by decide))
  · refine lv_aload_n hx hb dJ0_coder_7d493_6 rfl (lv_at hl 0 rfl) ?_
    refine vk_getf hx hb (hZ.1.1 si hsi).2.1 hS hown (hts (.fieldLink RJ0 15 "java/lang/String" "coder" "B") (List.mem_cons_of_mem _ (List.mem_append_left _ (List.mem_of_getElem? (i := 1) rfl)))) (fun _ h9 => h9) dJ0_coder_7d493_7 ?_
    refine lv_goto (tgt := 14) hx hb dJ0_coder_7d493_10 (by decide) ?_
    exact W.zret (v := 0) hx hb hr (by decide) (fun t ht hW => ⟨0, rfl, ⟨rfl, trivial⟩, ht⟩) (fun _ h9 => absurd h9 List.not_mem_nil) dJ0_coder_7d493_14
set_option maxHeartbeats 4000000 in
set_option maxRecDepth 100000 in
theorem s_isLatin1 (l : Launch) (G : va_G) (k : Nat → ClassId) (sa : Nat → Nat) (si : Nat) (hsi : si < 7) : Met l yJ0_isLatin1_aae02 vs_s_isLatin1 ({ frames := 0, cells := 0, slots := 0, locals := 0 } : Room) (gR G k sa [.ref (sa si)] []) (vp_Si (fun r => (r = 1 ∧ True))) 0 0 (fun _ => False) := by
  refine gz_metR (cc := cJ0_isLatin1_aae02) (maxL := 1) (ret := (some .boolean)) (by decide) rfl (Nat.le_of_ble_eq_true rfl) ?_
  intro p_ e_ s_ m below_ meth_ c_ ls hx hb hr hml hts hown hlocks hP hE hZ hS hl
  have hl : lv_has ls 1 [(0, .ref (sa si))] := hl
  refine va_gets hx hb hZ.2.1 hS hown (hts (.fieldLink RJ0 38 "java/lang/String" "COMPACT_STRINGS" "Z") (List.mem_cons_of_mem _ (List.mem_append_left _ (List.mem_of_getElem? (i := 0) rfl)))) (fun _ h9 => h9) dJ0_isLatin1_aae02_0 ?_
  refine lv_if_eq (tgt := 17) hx hb dJ0_isLatin1_aae02_3 (by decide) (fun c_3 => ?_) (fun c_3 => ?_)
  · exact absurd c_3 (gIv_neq (gIv_of (a := 1) (b := 1) (x := 1) (by decide)) (gIv_of (a := 0) (b := 0) (x := 0) (by decide)) (by decide))
  · refine lv_aload_n hx hb dJ0_isLatin1_aae02_6 rfl (lv_at hl 0 rfl) ?_
    refine vk_getf hx hb (hZ.1.1 si hsi).2.1 hS hown (hts (.fieldLink RJ0 15 "java/lang/String" "coder" "B") (List.mem_cons_of_mem _ (List.mem_append_left _ (List.mem_of_getElem? (i := 1) rfl)))) (fun _ h9 => h9) dJ0_isLatin1_aae02_7 ?_
    refine lv_if_ne (tgt := 17) hx hb dJ0_isLatin1_aae02_10 (by decide) (fun c_10 => ?_) (fun c_10 => ?_)
    · exact absurd (gIv_yeq (gIv_of (a := 0) (b := 0) (x := 0) (by decide)) (gIv_of (a := 0) (b := 0) (x := 0) (by decide))) c_10
    · refine lv_iconst (v := 1) hx hb dJ0_isLatin1_aae02_13 (by decide) ?_
      refine lv_goto (tgt := 18) hx hb dJ0_isLatin1_aae02_14 (by decide) ?_
      exact W.zret (v := 1) hx hb hr (by decide) (fun t ht hW => ⟨1, rfl, ⟨rfl, trivial⟩, ht⟩) (fun _ h9 => absurd h9 List.not_mem_nil) dJ0_isLatin1_aae02_18
set_option maxHeartbeats 4000000 in
set_option maxRecDepth 100000 in
theorem s_length (l : Launch) (G : va_G) (k : Nat → ClassId) (sa : Nat → Nat) (si : Nat) (hsi : si < 7) : Met l yJ0_length_8abf5 vs_s_length ({ frames := 1, cells := 0, slots := 0, locals := 20 } : Room) (gR G k sa [.ref (sa si)] []) (vp_Si (fun r => (r = gLen si ∧ True))) 0 0 (fun _ => False) := by
  refine gz_metR (cc := cJ0_length_8abf5) (maxL := 1) (ret := (some .int)) (by decide) rfl (Nat.le_of_ble_eq_true rfl) ?_
  intro p_ e_ s_ m below_ meth_ c_ ls hx hb hr hml hts hown hlocks hP hE hZ hS hl
  have hl : lv_has ls 1 [(0, .ref (sa si))] := hl
  refine lv_aload_n hx hb dJ0_length_8abf5_0 rfl (lv_at hl 0 rfl) ?_
  refine vk_getf hx hb (hZ.1.1 si hsi).2.2.1 hS hown (hts (.fieldLink RJ0 9 "java/lang/String" "value" "[B") (List.mem_cons_of_mem _ (List.mem_append_left _ (List.mem_of_getElem? (i := 0) rfl)))) (fun _ h9 => h9) dJ0_length_8abf5_1 ?_
  refine va_tlen (v := gLen si) hx hb (hZ.1.1 si hsi).2.2.2 hS rfl dJ0_length_8abf5_4 ?_
  refine lv_aload_n hx hb dJ0_length_8abf5_5 rfl (lv_at hl 0 rfl) ?_
  refine vp_callSi (W.runV (As := []) (rest := [.int (gLen si)]) ⟨hx, hb, hml, hown, hts⟩ (s_coder l G k sa si hsi) (cwV 0 hts g_s_length_335_s_coder rfl rfl rfl (by decide +kernel) ⟨(Nat.le_of_ble_eq_true rfl), (Nat.le_of_ble_eq_true rfl)⟩) ⟨gR.bl, vk_recv hZ.1 hsi hS, (gR.pre (wc := []) hE hZ hS hP [] rfl)⟩ rfl rfl hl.1 rfl (lv_room (Nat.le_of_ble_eq_true rfl)) dJ0_length_8abf5_6 ⟨(Nat.le_of_ble_eq_true rfl), (Nat.le_of_ble_eq_true rfl)⟩) (fun r_6 hr_6 => ?_)
  rcases hr_6 with ⟨rfl, -⟩
  · refine lv_ishr hx hb dJ0_length_8abf5_9 ?_
    refine lv_topi (fun x_9 ex_9 => ?_)
    exact W.iret (v := x_9) hx hb hr (fun t ht hW => ⟨x_9, rfl, ⟨by rw [ex_9]; exact gLen_shr hsi, trivial⟩, ht⟩) (fun _ h9 => absurd h9 List.not_mem_nil) dJ0_length_8abf5_10
set_option maxHeartbeats 4000000 in
set_option maxRecDepth 100000 in
theorem s_checkP_n (l : Launch) (G : va_G) (k : Nat → ClassId) (sa : Nat → Nat) (a : Int32) (n : Int32) (hlt : a < n) (h_a : gIv 0 70 a) : Met l yJ3_checkIndex_8e157 vs_s_checkP_n ({ frames := 0, cells := 0, slots := 0, locals := 0 } : Room) (gR G k sa [.int a, .int n, .null] []) (vp_Si (fun r => gIv 0 70 r)) 0 0 (fun _ => False) := by
  refine gz_metR (cc := cJ3_checkIndex_8e157) (maxL := 3) (ret := (some .int)) (by decide) rfl (Nat.le_of_ble_eq_true rfl) ?_
  intro p_ e_ s_ m below_ meth_ c_ ls hx hb hr hml hts hown hlocks hP hE hZ hS hl
  have hl : lv_has ls 3 [(0, .int a), (1, .int n), (2, .null)] := hl
  refine lv_iload_n hx hb dJ3_checkIndex_8e157_0 rfl (lv_at hl 0 rfl) ?_
  refine lv_if_lt (tgt := 9) hx hb dJ3_checkIndex_8e157_1 (by decide) (fun c_1 => ?_) (fun c_1 => ?_)
  · exact absurd c_1 (gIv_nlt h_a (gIv_of (a := 0) (b := 0) (x := 0) (by decide)) (by decide))
  · refine lv_iload_n hx hb dJ3_checkIndex_8e157_4 rfl (lv_at hl 0 rfl) ?_
    refine lv_iload_n hx hb dJ3_checkIndex_8e157_5 rfl (lv_at hl 1 rfl) ?_
    refine lv_icmp_lt (tgt := 16) hx hb dJ3_checkIndex_8e157_6 (by decide) (fun c_6 => ?_) (fun c_6 => ?_)
    · have h6_n : gIv 1 2147483647 n := gIv_lt_r h_a (gIv_any n) c_6 (by decide)
      refine lv_iload_n hx hb dJ3_checkIndex_8e157_16 rfl (lv_at hl 0 rfl) ?_
      exact W.iret (v := a) hx hb hr (fun t ht hW => ⟨a, rfl, h_a, ht⟩) (fun _ h9 => absurd h9 List.not_mem_nil) dJ3_checkIndex_8e157_17
    · exact absurd hlt c_6
set_option maxHeartbeats 4000000 in
set_option maxRecDepth 100000 in
theorem s_checkP_r (l : Launch) (G : va_G) (k : Nat → ClassId) (sa : Nat → Nat) (a : Int32) (n : Int32) (z : Nat) (hlt : a < n) (h_a : gIv 0 70 a) : Met l yJ3_checkIndex_8e157 vs_s_checkP_r ({ frames := 0, cells := 0, slots := 0, locals := 0 } : Room) (gR G k sa [.int a, .int n, .ref z] []) (vp_Si (fun r => gIv 0 70 r)) 0 0 (fun _ => False) := by
  refine gz_metR (cc := cJ3_checkIndex_8e157) (maxL := 3) (ret := (some .int)) (by decide) rfl (Nat.le_of_ble_eq_true rfl) ?_
  intro p_ e_ s_ m below_ meth_ c_ ls hx hb hr hml hts hown hlocks hP hE hZ hS hl
  have hl : lv_has ls 3 [(0, .int a), (1, .int n), (2, .ref z)] := hl
  refine lv_iload_n hx hb dJ3_checkIndex_8e157_0 rfl (lv_at hl 0 rfl) ?_
  refine lv_if_lt (tgt := 9) hx hb dJ3_checkIndex_8e157_1 (by decide) (fun c_1 => ?_) (fun c_1 => ?_)
  · exact absurd c_1 (gIv_nlt h_a (gIv_of (a := 0) (b := 0) (x := 0) (by decide)) (by decide))
  · refine lv_iload_n hx hb dJ3_checkIndex_8e157_4 rfl (lv_at hl 0 rfl) ?_
    refine lv_iload_n hx hb dJ3_checkIndex_8e157_5 rfl (lv_at hl 1 rfl) ?_
    refine lv_icmp_lt (tgt := 16) hx hb dJ3_checkIndex_8e157_6 (by decide) (fun c_6 => ?_) (fun c_6 => ?_)
    · have h6_n : gIv 1 2147483647 n := gIv_lt_r h_a (gIv_any n) c_6 (by decide)
      refine lv_iload_n hx hb dJ3_checkIndex_8e157_16 rfl (lv_at hl 0 rfl) ?_
      exact W.iret (v := a) hx hb hr (fun t ht hW => ⟨a, rfl, h_a, ht⟩) (fun _ h9 => absurd h9 List.not_mem_nil) dJ3_checkIndex_8e157_17
    · exact absurd hlt c_6
set_option maxHeartbeats 4000000 in
set_option maxRecDepth 100000 in
theorem s_checkS (l : Launch) (G : va_G) (k : Nat → ClassId) (sa : Nat → Nat) (sz : Nat) (a : Int32) (n : Int32) (hlt : a < n) (h_a : gIv 0 70 a) : Met l yJ0_checkIndex_df160 vs_s_checkS ({ frames := 1, cells := 0, slots := 0, locals := 22 } : Room) (gP G k sa [.int a, .int n] [] sz) (va_Qv (fun u : gS => True) (gO G (va_A [] sz) (fun u : gS => [])) (va_A [] sz)) 0 0 (va_A [] sz) := by
  refine gz_met (cc := cJ0_checkIndex_df160) (maxL := 2) (ret := none) (by decide) rfl (Nat.le_of_ble_eq_true rfl) ?_
  intro p_ e_ s_ m below_ meth_ c_ ls hx hb hr hml hts hown hlocks hin hP hE hZ hD hA hS
  generalize hAe : va_A [] sz = A at hZ hD hA hS ⊢
  intro hl
  have hl : lv_has ls 2 [(0, .int a), (1, .int n)] := hl
  refine lv_iload_n hx hb dJ0_checkIndex_df160_0 rfl (lv_at hl 0 rfl) ?_
  refine lv_iload_n hx hb dJ0_checkIndex_df160_1 rfl (lv_at hl 1 rfl) ?_
  rcases hZ.2.2 with hz_2 | ⟨tz_2, hz_2⟩
  · refine va_gets hx hb hz_2 hS hown (hts (.fieldLink RJ0 1053 "jdk/internal/util/Preconditions" "SIOOBE_FORMATTER" "Ljava/util/function/BiFunction;") (List.mem_cons_of_mem _ (List.mem_append_left _ (List.mem_of_getElem? (i := 0) rfl)))) (fun _ h9 => h9) dJ0_checkIndex_df160_2 ?_
    refine vp_callSi (W.runS (As := [.int a, .int n, .null]) (rest := []) ⟨hx, hb, hml, hown, hts⟩ (s_checkP_n l G k sa a n hlt h_a) (va_cwS 3 hts g_s_checkS_1059_s_checkP_n rfl rfl rfl (by decide +kernel) ⟨(Nat.le_of_ble_eq_true rfl), (Nat.le_of_ble_eq_true rfl)⟩) ⟨gR.bl, (gR.pre (wc := []) hE hZ hS hP [] rfl)⟩ rfl rfl hl.1 rfl (lv_room (Nat.le_of_ble_eq_true rfl)) dJ0_checkIndex_df160_5 ⟨(Nat.le_of_ble_eq_true rfl), (Nat.le_of_ble_eq_true rfl)⟩) (fun r_5 hr_5 => ?_)
    refine lv_pop hx hb dJ0_checkIndex_df160_8 rfl ?_
    have hP9 := hP.sub (ws' := ((fun u : gS => []) ((fun _ => 0), (fun _ _ => 0), (fun _ => 0), (fun _ _ => 0), (fun _ => none)))) [] rfl
    have hD9 := hD.sub (ws' := ((fun u : gS => []) ((fun _ => 0), (fun _ _ => 0), (fun _ => 0), (fun _ _ => 0), (fun _ => none)))) [] (by decide) rfl
    exact W.vret hx hb hr (fun t ht hW => ⟨⟨((fun _ => 0), (fun _ _ => 0), (fun _ => 0), (fun _ _ => 0), (fun _ => none)), rfl, trivial, by rw [ht]; exact hP9, hD9⟩, hS.F ht⟩) hS.2.2 dJ0_checkIndex_df160_9
  · refine va_gets hx hb hz_2 hS hown (hts (.fieldLink RJ0 1053 "jdk/internal/util/Preconditions" "SIOOBE_FORMATTER" "Ljava/util/function/BiFunction;") (List.mem_cons_of_mem _ (List.mem_append_left _ (List.mem_of_getElem? (i := 0) rfl)))) (fun _ h9 => h9) dJ0_checkIndex_df160_2 ?_
    refine vp_callSi (W.runS (As := [.int a, .int n, .ref tz_2]) (rest := []) ⟨hx, hb, hml, hown, hts⟩ (s_checkP_r l G k sa a n tz_2 hlt h_a) (va_cwS 3 hts g_s_checkS_1059_s_checkP_r rfl rfl rfl (by decide +kernel) ⟨(Nat.le_of_ble_eq_true rfl), (Nat.le_of_ble_eq_true rfl)⟩) ⟨gR.bl, (gR.pre (wc := []) hE hZ hS hP [] rfl)⟩ rfl rfl hl.1 rfl (lv_room (Nat.le_of_ble_eq_true rfl)) dJ0_checkIndex_df160_5 ⟨(Nat.le_of_ble_eq_true rfl), (Nat.le_of_ble_eq_true rfl)⟩) (fun r_5 hr_5 => ?_)
    refine lv_pop hx hb dJ0_checkIndex_df160_8 rfl ?_
    have hP9 := hP.sub (ws' := ((fun u : gS => []) ((fun _ => 0), (fun _ _ => 0), (fun _ => 0), (fun _ _ => 0), (fun _ => none)))) [] rfl
    have hD9 := hD.sub (ws' := ((fun u : gS => []) ((fun _ => 0), (fun _ _ => 0), (fun _ => 0), (fun _ _ => 0), (fun _ => none)))) [] (by decide) rfl
    exact W.vret hx hb hr (fun t ht hW => ⟨⟨((fun _ => 0), (fun _ _ => 0), (fun _ => 0), (fun _ _ => 0), (fun _ => none)), rfl, trivial, by rw [ht]; exact hP9, hD9⟩, hS.F ht⟩) hS.2.2 dJ0_checkIndex_df160_9
set_option maxHeartbeats 4000000 in
set_option maxRecDepth 100000 in
theorem s_charAtL (l : Launch) (G : va_G) (k : Nat → ClassId) (sa : Nat → Nat) (sz : Nat) (si : Nat) (a : Int32) (hsi : si < 7) (hlt : a < gLen si) (h_a : gIv 0 70 a) : Met l yJ1_charAt_3b067 vs_s_charAtL ({ frames := 2, cells := 0, slots := 0, locals := 43 } : Room) (gP G k sa [.ref (sa (100 + si)), .int a] [] sz) (va_Qi (fun r (u : gS) => (gIv 0 255 r) ∧ True) (gO G (va_A [] sz) (fun u : gS => [])) (va_A [] sz)) 0 0 (va_A [] sz) := by
  refine gz_met (cc := cJ1_charAt_3b067) (maxL := 2) (ret := (some .char)) (by decide) rfl (Nat.le_of_ble_eq_true rfl) ?_
  intro p_ e_ s_ m below_ meth_ c_ ls hx hb hr hml hts hown hlocks hin hP hE hZ hD hA hS
  generalize hAe : va_A [] sz = A at hZ hD hA hS ⊢
  intro hl
  have hl : lv_has ls 2 [(0, .ref (sa (100 + si))), (1, .int a)] := hl
  refine lv_iload_n hx hb dJ1_charAt_3b067_0 rfl (lv_at hl 1 rfl) ?_
  refine lv_aload_n hx hb dJ1_charAt_3b067_1 rfl (lv_at hl 0 rfl) ?_
  refine va_tlen (v := gLen si) hx hb (hZ.1.1 si hsi).2.2.2 hS rfl dJ1_charAt_3b067_2 ?_
  refine gz_v (wc := []) (wr := []) hP hD hS hA [] [] rfl rfl (by decide) (by decide) (va_runS (As := [.int a, .int (gLen si)]) (rest := []) ⟨hx, hb, hml, hown, hts⟩ (s_checkS l G k sa _ a (gLen si) hlt h_a) (va_cwS 2 hts g_s_charAtL_9_s_checkS rfl rfl rfl (by decide +kernel) ⟨(Nat.le_of_ble_eq_true rfl), (Nat.le_of_ble_eq_true rfl)⟩) ⟨gP.bl, (gP.pre (wc := []) hE hZ hS hA hP hD [] rfl (by decide))⟩ rfl rfl hl.1 rfl (lv_room (Nat.le_of_ble_eq_true rfl)) dJ1_charAt_3b067_3 ⟨(Nat.le_of_ble_eq_true rfl), (Nat.le_of_ble_eq_true rfl)⟩) (fun u_3 H locs hr_3 hP hD hS => ?_)
  have hP := hP.sub (ws' := []) [] rfl
  have hD := hD.sub (ws' := []) [] (by decide) rfl
  refine lv_aload_n hx hb dJ1_charAt_3b067_6 rfl (lv_at hl 0 rfl) ?_
  refine lv_iload_n hx hb dJ1_charAt_3b067_7 rfl (lv_at hl 1 rfl) ?_
  refine va_tb hx hb (hZ.1.1 si hsi).2.2.2 hS (gLen_in hsi h_a hlt) rfl dJ1_charAt_3b067_8 ?_
  refine lv_topi (fun x_8 ex_8 => ?_)
  refine lv_sipush (v := 255) hx hb dJ1_charAt_3b067_9 (by decide) ?_
  refine lv_iand hx hb dJ1_charAt_3b067_12 ?_
  refine lv_topi (fun x_12 ex_12 => ?_)
  have hx_12 : gIv 0 255 x_12 := gIv_eq (gIv_and _ 8 (by decide) (by decide) (by decide)) ex_12
  obtain ⟨x_13, ex_13⟩ : ∃ y : Int32, y = (x_12.toUInt32 % 65536).toInt32 := ⟨_, rfl⟩
  refine lv_i2c (v := x_13) hx hb dJ1_charAt_3b067_13 ex_13.symm ?_
  have hx_13 : gIv 0 255 x_13 := gIv_eq (gIv_i2c hx_12) ex_13
  have hP9 := hP.sub (ws' := ((fun u : gS => []) ((fun _ => 0), (fun _ _ => 0), (fun _ => 0), (fun _ _ => 0), (fun _ => none)))) [] rfl
  have hD9 := hD.sub (ws' := ((fun u : gS => []) ((fun _ => 0), (fun _ _ => 0), (fun _ => 0), (fun _ _ => 0), (fun _ => none)))) [] (by decide) rfl
  exact W.zret (v := x_13) hx hb hr (gIv_ch hx_13) (fun t ht hW => ⟨⟨x_13, ((fun _ => 0), (fun _ _ => 0), (fun _ => 0), (fun _ _ => 0), (fun _ => none)), rfl, ⟨hx_13, trivial⟩, by rw [ht]; exact hP9, hD9⟩, hS.F ht⟩) hS.2.2 dJ1_charAt_3b067_14
set_option maxHeartbeats 4000000 in
set_option maxRecDepth 100000 in
theorem s_charAt (l : Launch) (G : va_G) (k : Nat → ClassId) (sa : Nat → Nat) (sz : Nat) (si : Nat) (a : Int32) (hsi : si < 7) (hlt : a < gLen si) (h_a : gIv 0 70 a) : Met l yJ0_charAt_5068e vs_s_charAt ({ frames := 3, cells := 0, slots := 0, locals := 64 } : Room) (gP G k sa [.ref (sa si), .int a] [] sz) (va_Qi (fun r (u : gS) => (gIv 0 255 r) ∧ True) (gO G (va_A [] sz) (fun u : gS => [])) (va_A [] sz)) 0 0 (va_A [] sz) := by
  refine gz_met (cc := cJ0_charAt_5068e) (maxL := 2) (ret := (some .char)) (by decide) rfl (Nat.le_of_ble_eq_true rfl) ?_
  intro p_ e_ s_ m below_ meth_ c_ ls hx hb hr hml hts hown hlocks hin hP hE hZ hD hA hS
  generalize hAe : va_A [] sz = A at hZ hD hA hS ⊢
  intro hl
  have hl : lv_has ls 2 [(0, .ref (sa si)), (1, .int a)] := hl
  refine lv_aload_n hx hb dJ0_charAt_5068e_0 rfl (lv_at hl 0 rfl) ?_
  refine vp_callSi (W.runV (As := []) (rest := []) ⟨hx, hb, hml, hown, hts⟩ (s_isLatin1 l G k sa si hsi) (cwV 0 hts g_s_charAt_492_s_isLatin1 rfl rfl rfl (by decide +kernel) ⟨(Nat.le_of_ble_eq_true rfl), (Nat.le_of_ble_eq_true rfl)⟩) ⟨gR.bl, vk_recv hZ.1 hsi hS, (gR.pre (wc := []) hE hZ hS hP [] rfl)⟩ rfl rfl hl.1 rfl (lv_room (Nat.le_of_ble_eq_true rfl)) dJ0_charAt_5068e_1 ⟨(Nat.le_of_ble_eq_true rfl), (Nat.le_of_ble_eq_true rfl)⟩) (fun r_1 hr_1 => ?_)
  rcases hr_1 with ⟨rfl, -⟩
  · refine lv_if_eq (tgt := 16) hx hb dJ0_charAt_5068e_4 (by decide) (fun c_4 => ?_) (fun c_4 => ?_)
    · exact absurd c_4 (gIv_neq (gIv_of (a := 1) (b := 1) (x := 1) (by decide)) (gIv_of (a := 0) (b := 0) (x := 0) (by decide)) (by decide))
    · refine lv_aload_n hx hb dJ0_charAt_5068e_7 rfl (lv_at hl 0 rfl) ?_
      refine vk_getf hx hb (hZ.1.1 si hsi).2.2.1 hS hown (hts (.fieldLink RJ0 9 "java/lang/String" "value" "[B") (List.mem_cons_of_mem _ (List.mem_append_left _ (List.mem_of_getElem? (i := 4) rfl)))) (fun _ h9 => h9) dJ0_charAt_5068e_8 ?_
      refine lv_iload_n hx hb dJ0_charAt_5068e_11 rfl (lv_at hl 1 rfl) ?_
      refine gz_i (wc := []) (wr := []) hP hD hS hA [] [] rfl rfl (by decide) (by decide) (va_runS (As := [.ref (sa (100 + si)), .int a]) (rest := []) ⟨hx, hb, hml, hown, hts⟩ (s_charAtL l G k sa _ si a hsi hlt h_a) (va_cwS 2 hts g_s_charAt_495_s_charAtL rfl rfl rfl (by decide +kernel) ⟨(Nat.le_of_ble_eq_true rfl), (Nat.le_of_ble_eq_true rfl)⟩) ⟨gP.bl, (gP.pre (wc := []) hE hZ hS hA hP hD [] rfl (by decide))⟩ rfl rfl hl.1 rfl (lv_room (Nat.le_of_ble_eq_true rfl)) dJ0_charAt_5068e_12 ⟨(Nat.le_of_ble_eq_true rfl), (Nat.le_of_ble_eq_true rfl)⟩) (fun r_12 u_12 H locs hr_12 hP hD hS => ?_)
      have hP := hP.sub (ws' := []) [] rfl
      have hD := hD.sub (ws' := []) [] (by decide) rfl
      have hP9 := hP.sub (ws' := ((fun u : gS => []) ((fun _ => 0), (fun _ _ => 0), (fun _ => 0), (fun _ _ => 0), (fun _ => none)))) [] rfl
      have hD9 := hD.sub (ws' := ((fun u : gS => []) ((fun _ => 0), (fun _ _ => 0), (fun _ => 0), (fun _ _ => 0), (fun _ => none)))) [] (by decide) rfl
      exact W.zret (v := r_12) hx hb hr (gIv_ch hr_12.1) (fun t ht hW => ⟨⟨r_12, ((fun _ => 0), (fun _ _ => 0), (fun _ => 0), (fun _ _ => 0), (fun _ => none)), rfl, ⟨hr_12.1, trivial⟩, by rw [ht]; exact hP9, hD9⟩, hS.F ht⟩) hS.2.2 dJ0_charAt_5068e_15
