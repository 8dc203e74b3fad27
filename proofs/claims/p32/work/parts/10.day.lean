theorem ltw_0 : (.fieldLink RX2 9 "GossamerGate$Day" "people" "I" : Cond) ∈ lw_tbl := (List.mem_append_right _ (List.mem_append_left _ (List.mem_of_getElem? (l := tables_1_1) (i := 142) (by decide +kernel))))
theorem ltw_1 : (.fieldLink RX2 15 "GossamerGate$Day" "hour" "I" : Cond) ∈ lw_tbl := (List.mem_append_right _ (List.mem_append_left _ (List.mem_of_getElem? (l := tables_1_1) (i := 146) (by decide +kernel))))
theorem ltw_2 : (.fieldLink RX2 18 "GossamerGate$Day" "gates" "J" : Cond) ∈ lw_tbl := (List.mem_append_right _ (List.mem_append_left _ (List.mem_of_getElem? (l := tables_1_1) (i := 150) (by decide +kernel))))
theorem ltw_3 : (.fieldLink RX2 29 "GossamerGate$Day" "place" "[I" : Cond) ∈ lw_tbl := (List.mem_append_right _ (List.mem_append_left _ (List.mem_of_getElem? (l := tables_1_1) (i := 161) (by decide +kernel))))
theorem ltw_4 : (.fieldLink RX2 32 "GossamerGate$Day" "tangled" "[I" : Cond) ∈ lw_tbl := (List.mem_append_right _ (List.mem_append_left _ (List.mem_of_getElem? (l := tables_1_1) (i := 164) (by decide +kernel))))
theorem ltw_5 : (.code yX2_clear cX2_clear 2 none : Cond) ∈ lw_tbl := (List.mem_append_right _ (List.mem_append_right _ (List.mem_append_left _ (List.mem_of_getElem? (l := tables_1_2) (i := 172) (by decide +kernel)))))
theorem ltw_6 : (.fieldLink RX2 22 "GossamerGate$Day" "cell" "[I" : Cond) ∈ lw_tbl := (List.mem_append_right _ (List.mem_append_left _ (List.mem_of_getElem? (l := tables_1_1) (i := 152) (by decide +kernel))))
theorem ltw_7 : (.methodLink RX2 35 arraycopyName : Cond) ∈ lw_tbl := (List.mem_append_right _ (List.mem_append_right _ (List.mem_append_right _ (List.mem_append_left _ (List.mem_of_getElem? (l := tables_1_3) (i := 70) (by decide +kernel))))))
theorem ltw_8 : (.native arraycopyName : Cond) ∈ lw_tbl := (List.mem_append_right _ (List.mem_append_right _ (List.mem_append_right _ (List.mem_append_left _ (List.mem_of_getElem? (l := tables_1_3) (i := 65) (by decide +kernel))))))
theorem ltw_9 : (.static arraycopyName : Cond) ∈ lw_tbl := (List.mem_append_right _ (List.mem_append_right _ (List.mem_append_right _ (List.mem_append_left _ (List.mem_of_getElem? (l := tables_1_3) (i := 64) (by decide +kernel))))))
theorem ltw_10 : (.initialized "java/lang/System" : Cond) ∈ lw_tbl := (List.mem_append_right _ (List.mem_append_left _ (List.mem_of_getElem? (l := tables_1_1) (i := 17) (by decide +kernel))))
theorem ltw_11 : (.fieldLink RX2 26 "GossamerGate$Day" "thread" "[I" : Cond) ∈ lw_tbl := (List.mem_append_right _ (List.mem_append_left _ (List.mem_of_getElem? (l := tables_1_1) (i := 157) (by decide +kernel))))
theorem ltw_12 : (.code yX2_copyFrom cX2_copyFrom 2 none : Cond) ∈ lw_tbl := (List.mem_append_right _ (List.mem_append_right _ (List.mem_append_right _ (List.mem_append_left _ (List.mem_of_getElem? (l := tables_1_3) (i := 69) (by decide +kernel))))))
theorem ltw_13 : (.code yX2_hasGate cX2_hasGate 2 (some .boolean) : Cond) ∈ lw_tbl := (List.mem_append_right _ (List.mem_append_right _ (List.mem_append_right _ (List.mem_append_left _ (List.mem_of_getElem? (l := tables_1_3) (i := 42) (by decide +kernel))))))
theorem ltw_14 : (.code yX2_turnGate cX2_turnGate 2 none : Cond) ∈ lw_tbl := (List.mem_append_right _ (List.mem_append_right _ (List.mem_append_right _ (List.mem_append_left _ (List.mem_of_getElem? (l := tables_1_3) (i := 46) (by decide +kernel))))))
theorem ltw_15 : (.code yX2_bitsIn cX2_bitsIn 4 (some .int) : Cond) ∈ lw_tbl := (List.mem_append_right _ (List.mem_append_right _ (List.mem_append_right _ (List.mem_append_left _ (List.mem_of_getElem? (l := tables_1_3) (i := 202) (by decide +kernel))))))
theorem ltw_16 : (.code yX2_sumOf cX2_sumOf 4 (some .int) : Cond) ∈ lw_tbl := (List.mem_append_right _ (List.mem_append_right _ (List.mem_append_right _ (List.mem_append_left _ (List.mem_of_getElem? (l := tables_1_3) (i := 206) (by decide +kernel))))))
set_option maxRecDepth 20000 in
theorem inq_2 : ∀ w ∈ wsX20, w ∈ lw_tbl := by
  have h : wsX20 = [.lays RX2 "GossamerGate$Day" "people" "I", .lays RX2 "GossamerGate$Day" "hour" "I", .lays RX2 "GossamerGate$Day" "gates" "J", .laysFinal RX2 "GossamerGate$Day" "cell" "[I", .laysFinal RX2 "GossamerGate$Day" "thread" "[I", .laysFinal RX2 "GossamerGate$Day" "place" "[I", .laysFinal RX2 "GossamerGate$Day" "tangled" "[I"] := by decide +kernel
  rw [h]
  exact List.forall_mem_cons.mpr ⟨(List.mem_append_right _ (List.mem_append_left _ (List.mem_of_getElem? (l := tables_1_1) (i := 167) (by decide +kernel)))), List.forall_mem_cons.mpr ⟨(List.mem_append_right _ (List.mem_append_left _ (List.mem_of_getElem? (l := tables_1_1) (i := 169) (by decide +kernel)))), List.forall_mem_cons.mpr ⟨(List.mem_append_right _ (List.mem_append_left _ (List.mem_of_getElem? (l := tables_1_1) (i := 171) (by decide +kernel)))), List.forall_mem_cons.mpr ⟨(List.mem_append_right _ (List.mem_append_left _ (List.mem_of_getElem? (l := tables_1_1) (i := 173) (by decide +kernel)))), List.forall_mem_cons.mpr ⟨(List.mem_append_right _ (List.mem_append_left _ (List.mem_of_getElem? (l := tables_1_1) (i := 175) (by decide +kernel)))), List.forall_mem_cons.mpr ⟨(List.mem_append_right _ (List.mem_append_left _ (List.mem_of_getElem? (l := tables_1_1) (i := 177) (by decide +kernel)))), List.forall_mem_cons.mpr ⟨(List.mem_append_right _ (List.mem_append_left _ (List.mem_of_getElem? (l := tables_1_1) (i := 179) (by decide +kernel)))), fun _ h => absurd h List.not_mem_nil⟩⟩⟩⟩⟩⟩⟩
theorem gcX_2 : gGood wsX20 := gGood_of (by decide +kernel)
def vs_s_X2_clear : List Cond := .code yX2_clear cX2_clear 2 none :: ([.fieldLink RX2 9 "GossamerGate$Day" "people" "I", .fieldLink RX2 15 "GossamerGate$Day" "hour" "I", .fieldLink RX2 18 "GossamerGate$Day" "gates" "J", .fieldLink RX2 29 "GossamerGate$Day" "place" "[I", .fieldLink RX2 32 "GossamerGate$Day" "tangled" "[I"] ++ (wsX20 ++ []))
theorem gw_s_X2_clear : gGood vs_s_X2_clear := gGood_co (gGood_of (by decide +kernel)) (gGood_app gcX_2 gGood_nil)
theorem il_s_X2_clear : ∀ w ∈ vs_s_X2_clear, w ∈ lw_tbl := List.forall_mem_cons.mpr ⟨ltw_5, List.forall_mem_append.mpr ⟨List.forall_mem_cons.mpr ⟨ltw_0, List.forall_mem_cons.mpr ⟨ltw_1, List.forall_mem_cons.mpr ⟨ltw_2, List.forall_mem_cons.mpr ⟨ltw_3, List.forall_mem_cons.mpr ⟨ltw_4, fun _ h => absurd h List.not_mem_nil⟩⟩⟩⟩⟩, (List.forall_mem_append.mpr ⟨inq_2, fun _ h => absurd h List.not_mem_nil⟩)⟩⟩
theorem j_s_X2_clear_2 : ∀ w ∈ wsX20, w ∈ vs_s_X2_clear := fun _ h => (List.mem_cons_of_mem _ (List.mem_append_right _ (List.mem_append_left _ h)))
def vs_s_X2_copyFrom : List Cond := .code yX2_copyFrom cX2_copyFrom 2 none :: ([.fieldLink RX2 9 "GossamerGate$Day" "people" "I", .fieldLink RX2 15 "GossamerGate$Day" "hour" "I", .fieldLink RX2 18 "GossamerGate$Day" "gates" "J", .fieldLink RX2 22 "GossamerGate$Day" "cell" "[I", .methodLink RX2 35 arraycopyName, .native arraycopyName, .static arraycopyName, .initialized "java/lang/System", .fieldLink RX2 26 "GossamerGate$Day" "thread" "[I", .fieldLink RX2 29 "GossamerGate$Day" "place" "[I", .fieldLink RX2 32 "GossamerGate$Day" "tangled" "[I"] ++ (wsX20 ++ []))
theorem gw_s_X2_copyFrom : gGood vs_s_X2_copyFrom := gGood_co (gGood_of (by decide +kernel)) (gGood_app gcX_2 gGood_nil)
theorem il_s_X2_copyFrom : ∀ w ∈ vs_s_X2_copyFrom, w ∈ lw_tbl := List.forall_mem_cons.mpr ⟨ltw_12, List.forall_mem_append.mpr ⟨List.forall_mem_cons.mpr ⟨ltw_0, List.forall_mem_cons.mpr ⟨ltw_1, List.forall_mem_cons.mpr ⟨ltw_2, List.forall_mem_cons.mpr ⟨ltw_6, List.forall_mem_cons.mpr ⟨ltw_7, List.forall_mem_cons.mpr ⟨ltw_8, List.forall_mem_cons.mpr ⟨ltw_9, List.forall_mem_cons.mpr ⟨ltw_10, List.forall_mem_cons.mpr ⟨ltw_11, List.forall_mem_cons.mpr ⟨ltw_3, List.forall_mem_cons.mpr ⟨ltw_4, fun _ h => absurd h List.not_mem_nil⟩⟩⟩⟩⟩⟩⟩⟩⟩⟩⟩, (List.forall_mem_append.mpr ⟨inq_2, fun _ h => absurd h List.not_mem_nil⟩)⟩⟩
theorem j_s_X2_copyFrom_2 : ∀ w ∈ wsX20, w ∈ vs_s_X2_copyFrom := fun _ h => (List.mem_cons_of_mem _ (List.mem_append_right _ (List.mem_append_left _ h)))
def vs_s_X2_hasGate : List Cond := .code yX2_hasGate cX2_hasGate 2 (some .boolean) :: ([.fieldLink RX2 18 "GossamerGate$Day" "gates" "J"] ++ (wsX20 ++ []))
theorem gw_s_X2_hasGate : gGood vs_s_X2_hasGate := gGood_co (gGood_of (by decide +kernel)) (gGood_app gcX_2 gGood_nil)
theorem il_s_X2_hasGate : ∀ w ∈ vs_s_X2_hasGate, w ∈ lw_tbl := List.forall_mem_cons.mpr ⟨ltw_13, List.forall_mem_append.mpr ⟨List.forall_mem_cons.mpr ⟨ltw_2, fun _ h => absurd h List.not_mem_nil⟩, (List.forall_mem_append.mpr ⟨inq_2, fun _ h => absurd h List.not_mem_nil⟩)⟩⟩
theorem j_s_X2_hasGate_2 : ∀ w ∈ wsX20, w ∈ vs_s_X2_hasGate := fun _ h => (List.mem_cons_of_mem _ (List.mem_append_right _ (List.mem_append_left _ h)))
def vs_s_X2_turnGate : List Cond := .code yX2_turnGate cX2_turnGate 2 none :: ([.fieldLink RX2 18 "GossamerGate$Day" "gates" "J"] ++ (wsX20 ++ []))
theorem gw_s_X2_turnGate : gGood vs_s_X2_turnGate := gGood_co (gGood_of (by decide +kernel)) (gGood_app gcX_2 gGood_nil)
theorem il_s_X2_turnGate : ∀ w ∈ vs_s_X2_turnGate, w ∈ lw_tbl := List.forall_mem_cons.mpr ⟨ltw_14, List.forall_mem_append.mpr ⟨List.forall_mem_cons.mpr ⟨ltw_2, fun _ h => absurd h List.not_mem_nil⟩, (List.forall_mem_append.mpr ⟨inq_2, fun _ h => absurd h List.not_mem_nil⟩)⟩⟩
theorem j_s_X2_turnGate_2 : ∀ w ∈ wsX20, w ∈ vs_s_X2_turnGate := fun _ h => (List.mem_cons_of_mem _ (List.mem_append_right _ (List.mem_append_left _ h)))
def vs_s_X2_bitsIn : List Cond := .code yX2_bitsIn cX2_bitsIn 4 (some .int) :: ([.fieldLink RX2 9 "GossamerGate$Day" "people" "I", .fieldLink RX2 29 "GossamerGate$Day" "place" "[I"] ++ (wsX20 ++ []))
theorem gw_s_X2_bitsIn : gGood vs_s_X2_bitsIn := gGood_co (gGood_of (by decide +kernel)) (gGood_app gcX_2 gGood_nil)
theorem il_s_X2_bitsIn : ∀ w ∈ vs_s_X2_bitsIn, w ∈ lw_tbl := List.forall_mem_cons.mpr ⟨ltw_15, List.forall_mem_append.mpr ⟨List.forall_mem_cons.mpr ⟨ltw_0, List.forall_mem_cons.mpr ⟨ltw_3, fun _ h => absurd h List.not_mem_nil⟩⟩, (List.forall_mem_append.mpr ⟨inq_2, fun _ h => absurd h List.not_mem_nil⟩)⟩⟩
theorem j_s_X2_bitsIn_2 : ∀ w ∈ wsX20, w ∈ vs_s_X2_bitsIn := fun _ h => (List.mem_cons_of_mem _ (List.mem_append_right _ (List.mem_append_left _ h)))
def vs_s_X2_sumOf_th : List Cond := .code yX2_sumOf cX2_sumOf 4 (some .int) :: ([.fieldLink RX2 9 "GossamerGate$Day" "people" "I"] ++ (wsX20 ++ []))
theorem gw_s_X2_sumOf_th : gGood vs_s_X2_sumOf_th := gGood_co (gGood_of (by decide +kernel)) (gGood_app gcX_2 gGood_nil)
theorem il_s_X2_sumOf_th : ∀ w ∈ vs_s_X2_sumOf_th, w ∈ lw_tbl := List.forall_mem_cons.mpr ⟨ltw_16, List.forall_mem_append.mpr ⟨List.forall_mem_cons.mpr ⟨ltw_0, fun _ h => absurd h List.not_mem_nil⟩, (List.forall_mem_append.mpr ⟨inq_2, fun _ h => absurd h List.not_mem_nil⟩)⟩⟩
theorem j_s_X2_sumOf_th_2 : ∀ w ∈ wsX20, w ∈ vs_s_X2_sumOf_th := fun _ h => (List.mem_cons_of_mem _ (List.mem_append_right _ (List.mem_append_left _ h)))
def vs_s_X2_sumOf_ta : List Cond := .code yX2_sumOf cX2_sumOf 4 (some .int) :: ([.fieldLink RX2 9 "GossamerGate$Day" "people" "I"] ++ (wsX20 ++ []))
theorem gw_s_X2_sumOf_ta : gGood vs_s_X2_sumOf_ta := gGood_co (gGood_of (by decide +kernel)) (gGood_app gcX_2 gGood_nil)
theorem il_s_X2_sumOf_ta : ∀ w ∈ vs_s_X2_sumOf_ta, w ∈ lw_tbl := List.forall_mem_cons.mpr ⟨ltw_16, List.forall_mem_append.mpr ⟨List.forall_mem_cons.mpr ⟨ltw_0, fun _ h => absurd h List.not_mem_nil⟩, (List.forall_mem_append.mpr ⟨inq_2, fun _ h => absurd h List.not_mem_nil⟩)⟩⟩
theorem j_s_X2_sumOf_ta_2 : ∀ w ∈ wsX20, w ∈ vs_s_X2_sumOf_ta := fun _ h => (List.mem_cons_of_mem _ (List.mem_append_right _ (List.mem_append_left _ h)))
set_option maxHeartbeats 4000000 in
set_option maxRecDepth 100000 in
theorem s_X2_clear (l : Launch) (G : va_G) (k : Nat → ClassId) (sa : Nat → Nat) (sz : Nat) (d : Nat) (d_pe : Int32) (d_ho : Int32) (d_ga : Int64) (d_ce : Nat) (d_th : Nat) (d_pl : Nat) (d_plF : Nat → Int32) (d_ta : Nat) (d_taF : Nat → Int32) : Met l yX2_clear vs_s_X2_clear ({ frames := 0, cells := 0, slots := 0, locals := 0 } : Room) (gP G k sa [.ref d] [(d, .inr (2, [.int d_pe, .int d_ho, .long d_ga, .ref d_ce, .ref d_th, .ref d_pl, .ref d_ta])), (d_pl, .inl (k 0, 6, .inl d_plF)), (d_ta, .inl (k 0, 6, .inl d_taF))] sz) (va_Qv (fun u : gS => True) (gO G (va_A [(d, .inr (2, [.int d_pe, .int d_ho, .long d_ga, .ref d_ce, .ref d_th, .ref d_pl, .ref d_ta])), (d_pl, .inl (k 0, 6, .inl d_plF)), (d_ta, .inl (k 0, 6, .inl d_taF))] sz) (fun u : gS => [(d, .inr (2, [.int 0, .int 0, .long 0, .ref d_ce, .ref d_th, .ref d_pl, .ref d_ta])), (d_pl, .inl (k 0, 6, .inl (u.2.1 1000))), (d_ta, .inl (k 0, 6, .inl (u.2.1 1001)))])) (va_A [(d, .inr (2, [.int d_pe, .int d_ho, .long d_ga, .ref d_ce, .ref d_th, .ref d_pl, .ref d_ta])), (d_pl, .inl (k 0, 6, .inl d_plF)), (d_ta, .inl (k 0, 6, .inl d_taF))] sz)) 0 0 (va_A [(d, .inr (2, [.int d_pe, .int d_ho, .long d_ga, .ref d_ce, .ref d_th, .ref d_pl, .ref d_ta])), (d_pl, .inl (k 0, 6, .inl d_plF)), (d_ta, .inl (k 0, 6, .inl d_taF))] sz) := by
  refine gz_met (cc := cX2_clear) (maxL := 2) (ret := none) (by decide) rfl (Nat.le_of_ble_eq_true rfl) ?_
  intro p_ e_ s_ m below_ meth_ c_ ls hx hb hr hml hts hown hlocks hin hP hE hZ hD hA hS
  generalize hAe : va_A [(d, .inr (2, [.int d_pe, .int d_ho, .long d_ga, .ref d_ce, .ref d_th, .ref d_pl, .ref d_ta])), (d_pl, .inl (k 0, 6, .inl d_plF)), (d_ta, .inl (k 0, 6, .inl d_taF))] sz = A at hZ hD hA hS ⊢
  intro hl
  have hl : lv_has ls 2 [(0, .ref d)] := hl
  have hL_17 : ∀ (n : Nat) (g17_0 : Int32) (g17_1 : Nat → Int32) (g17_2 : Nat → Int32) (ls : Array Slot) (H : Heap) (locs : List Loc), gIv 0 6 g17_0 → (6 - g17_0.toInt).toNat < n → va_P G vwCl [(d, .inr (2, [.int 0, .int 0, .long 0, .ref d_ce, .ref d_th, .ref d_pl, .ref d_ta])), (d_pl, .inl (k 0, 6, .inl g17_1)), (d_ta, .inl (k 0, 6, .inl g17_2))] H → va_D A [(d, .inr (2, [.int 0, .int 0, .long 0, .ref d_ce, .ref d_th, .ref d_pl, .ref d_ta])), (d_pl, .inl (k 0, 6, .inl g17_1)), (d_ta, .inl (k 0, 6, .inl g17_2))] → va_S A s_.heap H locs → lv_has ls 2 [(0, .ref d), (1, .int g17_0)] → W p_ l e_ (headSpec vs_s_X2_clear ({ frames := 0, cells := 0, slots := 0, locals := 0 } : Room)).room s_ m [.ref d].toArray below_ meth_ c_ H locs 0 0 (MQ below_ (va_Qv (fun u : gS => True) (gO G A (fun u : gS => [(d, .inr (2, [.int 0, .int 0, .long 0, .ref d_ce, .ref d_th, .ref d_pl, .ref d_ta])), (d_pl, .inl (k 0, 6, .inl (u.2.1 1000))), (d_ta, .inl (k 0, 6, .inl (u.2.1 1001)))])) A) [.ref d].toArray s_ 0 0 A) (F0 m 17 ls []) := by
    intro n
    induction n with
    | zero => intro g17_0 g17_1 g17_2 ls H locs b17_0 hm_17 hP hD hS hl; exact absurd hm_17 (Nat.not_lt_zero _)
    | succ n ih_17 =>
      intro g17_0 g17_1 g17_2 ls H locs b17_0 hm_17 hP hD hS hl
      refine lv_iload_n hx hb dX2_clear_17 rfl (lv_at hl 1 rfl) ?_
      refine lv_bipush (v := 6) hx hb dX2_clear_18 (by decide) ?_
      refine lv_icmp_ge (tgt := 43) hx hb dX2_clear_20 (by decide) (fun c_20 => ?_) (fun c_20 => ?_)
      · have h20_g17_0 : gIv 6 6 g17_0 := gIv_le_r (gIv_of (a := 6) (b := 6) (x := 6) (by decide)) b17_0 c_20 (by decide)
        have hP9 := hP.sub (ws' := ((fun u : gS => [(d, .inr (2, [.int 0, .int 0, .long 0, .ref d_ce, .ref d_th, .ref d_pl, .ref d_ta])), (d_pl, .inl (k 0, 6, .inl (u.2.1 1000))), (d_ta, .inl (k 0, 6, .inl (u.2.1 1001)))]) ((fun _ => 0), (gU (gU (fun _ _ => 0) 1000 g17_1) 1001 g17_2), (fun _ => 0), (fun _ _ => 0), (fun _ => none)))) [0, 1, 2] rfl
        have hD9 := hD.sub (ws' := ((fun u : gS => [(d, .inr (2, [.int 0, .int 0, .long 0, .ref d_ce, .ref d_th, .ref d_pl, .ref d_ta])), (d_pl, .inl (k 0, 6, .inl (u.2.1 1000))), (d_ta, .inl (k 0, 6, .inl (u.2.1 1001)))]) ((fun _ => 0), (gU (gU (fun _ _ => 0) 1000 g17_1) 1001 g17_2), (fun _ => 0), (fun _ _ => 0), (fun _ => none)))) [0, 1, 2] (by decide) rfl
        exact W.vret hx hb hr (fun t ht hW => ⟨⟨((fun _ => 0), (gU (gU (fun _ _ => 0) 1000 g17_1) 1001 g17_2), (fun _ => 0), (fun _ _ => 0), (fun _ => none)), rfl, trivial, by rw [ht]; exact hP9, hD9⟩, hS.F ht⟩) hS.2.2 dX2_clear_43
      · have h20_g17_0 : gIv 0 5 g17_0 := gIv_lt_l b17_0 (gIv_of (a := 6) (b := 6) (x := 6) (by decide)) (gz_nle c_20) (by decide)
        refine lv_aload_n hx hb dX2_clear_23 rfl (lv_at hl 0 rfl) ?_
        refine va_get (D := G) (ci := 2) (v := .ref d_pl) (C := RX2) (T := TX2) (N := 7) hx hb hts j_s_X2_clear_2 hown hE.K hP 0 rfl rfl 5 (by decide) (hts (.fieldLink RX2 29 "GossamerGate$Day" "place" "[I") (List.mem_cons_of_mem _ (List.mem_append_left _ (List.mem_of_getElem? (i := 3) rfl)))) (fun _ h9 => h9) rfl dX2_clear_24 ?_
        refine lv_iload_n hx hb dX2_clear_27 rfl (lv_at hl 1 rfl) ?_
        refine lv_iconst (v := 0) hx hb dX2_clear_28 (by decide) ?_
        refine va_iast hx hb hE.K hP hD hS 1 0 rfl rfl (gIv_in (gIv_w h20_g17_0 (by decide) (by decide) : gIv 0 5 g17_0) (by decide)) dX2_clear_29 (fun H locs hP hD hS => ?_)
        have hP : va_P G vwCl [(d, .inr (2, [.int 0, .int 0, .long 0, .ref d_ce, .ref d_th, .ref d_pl, .ref d_ta])), (d_pl, .inl (k 0, 6, .inl (upd g17_1 (Int32.toNatClampNeg g17_0) 0))), (d_ta, .inl (k 0, 6, .inl g17_2))] H := hP
        have hD : va_D A [(d, .inr (2, [.int 0, .int 0, .long 0, .ref d_ce, .ref d_th, .ref d_pl, .ref d_ta])), (d_pl, .inl (k 0, 6, .inl (upd g17_1 (Int32.toNatClampNeg g17_0) 0))), (d_ta, .inl (k 0, 6, .inl g17_2))] := hD
        obtain ⟨f_29, ef_29⟩ : ∃ y : Nat → Int32, y = upd g17_1 (Int32.toNatClampNeg g17_0) 0 := ⟨_, rfl⟩
        rw [← ef_29] at hP hD
        have hP : va_P G vwCl [(d, .inr (2, [.int 0, .int 0, .long 0, .ref d_ce, .ref d_th, .ref d_pl, .ref d_ta])), (d_pl, .inl (k 0, 6, .inl f_29)), (d_ta, .inl (k 0, 6, .inl g17_2))] H := hP
        have hD : va_D A [(d, .inr (2, [.int 0, .int 0, .long 0, .ref d_ce, .ref d_th, .ref d_pl, .ref d_ta])), (d_pl, .inl (k 0, 6, .inl f_29)), (d_ta, .inl (k 0, 6, .inl g17_2))] := hD
        refine lv_aload_n hx hb dX2_clear_30 rfl (lv_at hl 0 rfl) ?_
        refine va_get (D := G) (ci := 2) (v := .ref d_ta) (C := RX2) (T := TX2) (N := 7) hx hb hts j_s_X2_clear_2 hown hE.K hP 0 rfl rfl 6 (by decide) (hts (.fieldLink RX2 32 "GossamerGate$Day" "tangled" "[I") (List.mem_cons_of_mem _ (List.mem_append_left _ (List.mem_of_getElem? (i := 4) rfl)))) (fun _ h9 => h9) rfl dX2_clear_31 ?_
        refine lv_iload_n hx hb dX2_clear_34 rfl (lv_at hl 1 rfl) ?_
        refine lv_iconst (v := 0) hx hb dX2_clear_35 (by decide) ?_
        refine va_iast hx hb hE.K hP hD hS 2 0 rfl rfl (gIv_in (gIv_w h20_g17_0 (by decide) (by decide) : gIv 0 5 g17_0) (by decide)) dX2_clear_36 (fun H locs hP hD hS => ?_)
        have hP : va_P G vwCl [(d, .inr (2, [.int 0, .int 0, .long 0, .ref d_ce, .ref d_th, .ref d_pl, .ref d_ta])), (d_pl, .inl (k 0, 6, .inl f_29)), (d_ta, .inl (k 0, 6, .inl (upd g17_2 (Int32.toNatClampNeg g17_0) 0)))] H := hP
        have hD : va_D A [(d, .inr (2, [.int 0, .int 0, .long 0, .ref d_ce, .ref d_th, .ref d_pl, .ref d_ta])), (d_pl, .inl (k 0, 6, .inl f_29)), (d_ta, .inl (k 0, 6, .inl (upd g17_2 (Int32.toNatClampNeg g17_0) 0)))] := hD
        obtain ⟨f_36, ef_36⟩ : ∃ y : Nat → Int32, y = upd g17_2 (Int32.toNatClampNeg g17_0) 0 := ⟨_, rfl⟩
        rw [← ef_36] at hP hD
        have hP : va_P G vwCl [(d, .inr (2, [.int 0, .int 0, .long 0, .ref d_ce, .ref d_th, .ref d_pl, .ref d_ta])), (d_pl, .inl (k 0, 6, .inl f_29)), (d_ta, .inl (k 0, 6, .inl f_36))] H := hP
        have hD : va_D A [(d, .inr (2, [.int 0, .int 0, .long 0, .ref d_ce, .ref d_th, .ref d_pl, .ref d_ta])), (d_pl, .inl (k 0, 6, .inl f_29)), (d_ta, .inl (k 0, 6, .inl f_36))] := hD
        obtain ⟨x_37, ex_37⟩ : ∃ y : Int32, y = g17_0 + 1 := ⟨_, rfl⟩
        refine lv_iinc (v := x_37) (lv' := [(1, .int x_37), (0, .ref d)]) hx hb dX2_clear_37 hl (k := 1) rfl (by rw [ex_37]; rfl) (by decide) rfl (fun ls hl => ?_)
        have hx_37 : gIv 1 6 x_37 := gIv_eq (gIv_add h20_g17_0 (gIv_of (a := 1) (b := 1) (by decide)) (by decide) (by decide)) ex_37
        have ix_37 : x_37.toInt = g17_0.toInt + 1 := gI_add ex_37 h20_g17_0 (by decide) (by decide)
        refine lv_goto (tgt := 17) hx hb dX2_clear_40 (by decide) ?_
        exact ih_17 x_37 f_29 f_36 ls H locs (gIv_w (a' := 0) (b' := 6) hx_37 (by decide) (by decide)) (gM_up ix_37 ((gIv_w (a' := 0) (b' := 6) hx_37 (by decide) (by decide))).2 hm_17 (by decide)) hP hD hS (lv_sub hl [1, 0] rfl)
  refine lv_aload_n hx hb dX2_clear_0 rfl (lv_at hl 0 rfl) ?_
  refine lv_iconst (v := 0) hx hb dX2_clear_1 (by decide) ?_
  refine va_put (D := G) (ci := 2) (v := .int 0) (ty := .int) (C := RX2) (T := TX2) (N := 7) hx hb hts j_s_X2_clear_2 tyX2 tyX2_ok nmX2 hown hE.K hP hD hS 0 rfl rfl 0 (by decide) (hts (.fieldLink RX2 9 "GossamerGate$Day" "people" "I") (List.mem_cons_of_mem _ (List.mem_append_left _ (List.mem_of_getElem? (i := 0) rfl)))) (fun _ h9 => h9) rfl (by decide +kernel) rfl rfl (Nat.le_of_ble_eq_true rfl) dX2_clear_2 (fun H locs hP hD hS => ?_)
  have hP : va_P G vwCl [(d, .inr (2, [.int 0, .int d_ho, .long d_ga, .ref d_ce, .ref d_th, .ref d_pl, .ref d_ta])), (d_pl, .inl (k 0, 6, .inl d_plF)), (d_ta, .inl (k 0, 6, .inl d_taF))] H := hP
  have hD : va_D A [(d, .inr (2, [.int 0, .int d_ho, .long d_ga, .ref d_ce, .ref d_th, .ref d_pl, .ref d_ta])), (d_pl, .inl (k 0, 6, .inl d_plF)), (d_ta, .inl (k 0, 6, .inl d_taF))] := hD
  refine lv_aload_n hx hb dX2_clear_5 rfl (lv_at hl 0 rfl) ?_
  refine lv_iconst (v := 0) hx hb dX2_clear_6 (by decide) ?_
  refine va_put (D := G) (ci := 2) (v := .int 0) (ty := .int) (C := RX2) (T := TX2) (N := 7) hx hb hts j_s_X2_clear_2 tyX2 tyX2_ok nmX2 hown hE.K hP hD hS 0 rfl rfl 1 (by decide) (hts (.fieldLink RX2 15 "GossamerGate$Day" "hour" "I") (List.mem_cons_of_mem _ (List.mem_append_left _ (List.mem_of_getElem? (i := 1) rfl)))) (fun _ h9 => h9) rfl (by decide +kernel) rfl rfl (Nat.le_of_ble_eq_true rfl) dX2_clear_7 (fun H locs hP hD hS => ?_)
  have hP : va_P G vwCl [(d, .inr (2, [.int 0, .int 0, .long d_ga, .ref d_ce, .ref d_th, .ref d_pl, .ref d_ta])), (d_pl, .inl (k 0, 6, .inl d_plF)), (d_ta, .inl (k 0, 6, .inl d_taF))] H := hP
  have hD : va_D A [(d, .inr (2, [.int 0, .int 0, .long d_ga, .ref d_ce, .ref d_th, .ref d_pl, .ref d_ta])), (d_pl, .inl (k 0, 6, .inl d_plF)), (d_ta, .inl (k 0, 6, .inl d_taF))] := hD
  refine lv_aload_n hx hb dX2_clear_10 rfl (lv_at hl 0 rfl) ?_
  refine lv_lconst (v := 0) hx hb dX2_clear_11 (by decide) ?_
  refine va_put (D := G) (ci := 2) (v := .long 0) (ty := .long) (C := RX2) (T := TX2) (N := 7) hx hb hts j_s_X2_clear_2 tyX2 tyX2_ok nmX2 hown hE.K hP hD hS 0 rfl rfl 2 (by decide) (hts (.fieldLink RX2 18 "GossamerGate$Day" "gates" "J") (List.mem_cons_of_mem _ (List.mem_append_left _ (List.mem_of_getElem? (i := 2) rfl)))) (fun _ h9 => h9) rfl (by decide +kernel) rfl rfl (Nat.le_of_ble_eq_true rfl) dX2_clear_12 (fun H locs hP hD hS => ?_)
  have hP : va_P G vwCl [(d, .inr (2, [.int 0, .int 0, .long 0, .ref d_ce, .ref d_th, .ref d_pl, .ref d_ta])), (d_pl, .inl (k 0, 6, .inl d_plF)), (d_ta, .inl (k 0, 6, .inl d_taF))] H := hP
  have hD : va_D A [(d, .inr (2, [.int 0, .int 0, .long 0, .ref d_ce, .ref d_th, .ref d_pl, .ref d_ta])), (d_pl, .inl (k 0, 6, .inl d_plF)), (d_ta, .inl (k 0, 6, .inl d_taF))] := hD
  refine lv_iconst (v := 0) hx hb dX2_clear_15 (by decide) ?_
  refine lv_istore_n (lv' := [(1, .int 0), (0, .ref d)]) hx hb dX2_clear_16 rfl hl (by decide) rfl (fun ls hl => ?_)
  exact hL_17 _ 0 d_plF d_taF ls H locs (gIv_of (a := 0) (b := 6) (x := 0) (by decide)) (Nat.lt_succ_self _) hP hD hS (lv_sub hl [1, 0] rfl)
set_option maxHeartbeats 4000000 in
set_option maxRecDepth 100000 in
theorem s_X2_copyFrom (l : Launch) (G : va_G) (k : Nat → ClassId) (sa : Nat → Nat) (sz : Nat) (d : Nat) (d_pe : Int32) (d_ho : Int32) (d_ga : Int64) (d_ce : Nat) (d_ceF : Nat → Int32) (d_th : Nat) (d_thF : Nat → Int32) (d_pl : Nat) (d_plF : Nat → Int32) (d_ta : Nat) (d_taF : Nat → Int32) (o : Nat) (o_pe : Int32) (o_ho : Int32) (o_ga : Int64) (o_ce : Nat) (o_ceF : Nat → Int32) (o_th : Nat) (o_thF : Nat → Int32) (o_pl : Nat) (o_plF : Nat → Int32) (o_ta : Nat) (o_taF : Nat → Int32) : Met l yX2_copyFrom vs_s_X2_copyFrom ({ frames := 1, cells := 0, slots := 0, locals := 90 } : Room) (gP G k sa [.ref d, .ref o] [(d, .inr (2, [.int d_pe, .int d_ho, .long d_ga, .ref d_ce, .ref d_th, .ref d_pl, .ref d_ta])), (d_ce, .inl (k 0, 6, .inl d_ceF)), (d_th, .inl (k 0, 6, .inl d_thF)), (d_pl, .inl (k 0, 6, .inl d_plF)), (d_ta, .inl (k 0, 6, .inl d_taF)), (o, .inr (2, [.int o_pe, .int o_ho, .long o_ga, .ref o_ce, .ref o_th, .ref o_pl, .ref o_ta])), (o_ce, .inl (k 0, 6, .inl o_ceF)), (o_th, .inl (k 0, 6, .inl o_thF)), (o_pl, .inl (k 0, 6, .inl o_plF)), (o_ta, .inl (k 0, 6, .inl o_taF))] sz) (va_Qv (fun u : gS => True) (gO G (va_A [(d, .inr (2, [.int d_pe, .int d_ho, .long d_ga, .ref d_ce, .ref d_th, .ref d_pl, .ref d_ta])), (d_ce, .inl (k 0, 6, .inl d_ceF)), (d_th, .inl (k 0, 6, .inl d_thF)), (d_pl, .inl (k 0, 6, .inl d_plF)), (d_ta, .inl (k 0, 6, .inl d_taF)), (o, .inr (2, [.int o_pe, .int o_ho, .long o_ga, .ref o_ce, .ref o_th, .ref o_pl, .ref o_ta])), (o_ce, .inl (k 0, 6, .inl o_ceF)), (o_th, .inl (k 0, 6, .inl o_thF)), (o_pl, .inl (k 0, 6, .inl o_plF)), (o_ta, .inl (k 0, 6, .inl o_taF))] sz) (fun u : gS => [(d, .inr (2, [.int o_pe, .int o_ho, .long o_ga, .ref d_ce, .ref d_th, .ref d_pl, .ref d_ta])), (d_ce, .inl (k 0, 6, .inl (u.2.1 1000))), (d_th, .inl (k 0, 6, .inl (u.2.1 1003))), (d_pl, .inl (k 0, 6, .inl (u.2.1 1001))), (d_ta, .inl (k 0, 6, .inl (u.2.1 1002))), (o, .inr (2, [.int o_pe, .int o_ho, .long o_ga, .ref o_ce, .ref o_th, .ref o_pl, .ref o_ta])), (o_ce, .inl (k 0, 6, .inl o_ceF)), (o_th, .inl (k 0, 6, .inl o_thF)), (o_pl, .inl (k 0, 6, .inl o_plF)), (o_ta, .inl (k 0, 6, .inl o_taF))])) (va_A [(d, .inr (2, [.int d_pe, .int d_ho, .long d_ga, .ref d_ce, .ref d_th, .ref d_pl, .ref d_ta])), (d_ce, .inl (k 0, 6, .inl d_ceF)), (d_th, .inl (k 0, 6, .inl d_thF)), (d_pl, .inl (k 0, 6, .inl d_plF)), (d_ta, .inl (k 0, 6, .inl d_taF)), (o, .inr (2, [.int o_pe, .int o_ho, .long o_ga, .ref o_ce, .ref o_th, .ref o_pl, .ref o_ta])), (o_ce, .inl (k 0, 6, .inl o_ceF)), (o_th, .inl (k 0, 6, .inl o_thF)), (o_pl, .inl (k 0, 6, .inl o_plF)), (o_ta, .inl (k 0, 6, .inl o_taF))] sz)) 0 0 (va_A [(d, .inr (2, [.int d_pe, .int d_ho, .long d_ga, .ref d_ce, .ref d_th, .ref d_pl, .ref d_ta])), (d_ce, .inl (k 0, 6, .inl d_ceF)), (d_th, .inl (k 0, 6, .inl d_thF)), (d_pl, .inl (k 0, 6, .inl d_plF)), (d_ta, .inl (k 0, 6, .inl d_taF)), (o, .inr (2, [.int o_pe, .int o_ho, .long o_ga, .ref o_ce, .ref o_th, .ref o_pl, .ref o_ta])), (o_ce, .inl (k 0, 6, .inl o_ceF)), (o_th, .inl (k 0, 6, .inl o_thF)), (o_pl, .inl (k 0, 6, .inl o_plF)), (o_ta, .inl (k 0, 6, .inl o_taF))] sz) := by
  refine gz_met (cc := cX2_copyFrom) (maxL := 2) (ret := none) (by decide) rfl (Nat.le_of_ble_eq_true rfl) ?_
  intro p_ e_ s_ m below_ meth_ c_ ls hx hb hr hml hts hown hlocks hin hP hE hZ hD hA hS
  generalize hAe : va_A [(d, .inr (2, [.int d_pe, .int d_ho, .long d_ga, .ref d_ce, .ref d_th, .ref d_pl, .ref d_ta])), (d_ce, .inl (k 0, 6, .inl d_ceF)), (d_th, .inl (k 0, 6, .inl d_thF)), (d_pl, .inl (k 0, 6, .inl d_plF)), (d_ta, .inl (k 0, 6, .inl d_taF)), (o, .inr (2, [.int o_pe, .int o_ho, .long o_ga, .ref o_ce, .ref o_th, .ref o_pl, .ref o_ta])), (o_ce, .inl (k 0, 6, .inl o_ceF)), (o_th, .inl (k 0, 6, .inl o_thF)), (o_pl, .inl (k 0, 6, .inl o_plF)), (o_ta, .inl (k 0, 6, .inl o_taF))] sz = A at hZ hD hA hS ⊢
  intro hl
  have hl : lv_has ls 2 [(0, .ref d), (1, .ref o)] := hl
  refine lv_aload_n hx hb dX2_copyFrom_0 rfl (lv_at hl 0 rfl) ?_
  refine lv_aload_n hx hb dX2_copyFrom_1 rfl (lv_at hl 1 rfl) ?_
  refine va_get (D := G) (ci := 2) (v := .int o_pe) (C := RX2) (T := TX2) (N := 7) hx hb hts j_s_X2_copyFrom_2 hown hE.K hP 5 rfl rfl 0 (by decide) (hts (.fieldLink RX2 9 "GossamerGate$Day" "people" "I") (List.mem_cons_of_mem _ (List.mem_append_left _ (List.mem_of_getElem? (i := 0) rfl)))) (fun _ h9 => h9) rfl dX2_copyFrom_2 ?_
  refine va_put (D := G) (ci := 2) (v := .int o_pe) (ty := .int) (C := RX2) (T := TX2) (N := 7) hx hb hts j_s_X2_copyFrom_2 tyX2 tyX2_ok nmX2 hown hE.K hP hD hS 0 rfl rfl 0 (by decide) (hts (.fieldLink RX2 9 "GossamerGate$Day" "people" "I") (List.mem_cons_of_mem _ (List.mem_append_left _ (List.mem_of_getElem? (i := 0) rfl)))) (fun _ h9 => h9) rfl (by decide +kernel) rfl rfl (Nat.le_of_ble_eq_true rfl) dX2_copyFrom_5 (fun H locs hP hD hS => ?_)
  have hP : va_P G vwCl [(d, .inr (2, [.int o_pe, .int d_ho, .long d_ga, .ref d_ce, .ref d_th, .ref d_pl, .ref d_ta])), (d_ce, .inl (k 0, 6, .inl d_ceF)), (d_th, .inl (k 0, 6, .inl d_thF)), (d_pl, .inl (k 0, 6, .inl d_plF)), (d_ta, .inl (k 0, 6, .inl d_taF)), (o, .inr (2, [.int o_pe, .int o_ho, .long o_ga, .ref o_ce, .ref o_th, .ref o_pl, .ref o_ta])), (o_ce, .inl (k 0, 6, .inl o_ceF)), (o_th, .inl (k 0, 6, .inl o_thF)), (o_pl, .inl (k 0, 6, .inl o_plF)), (o_ta, .inl (k 0, 6, .inl o_taF))] H := hP
  have hD : va_D A [(d, .inr (2, [.int o_pe, .int d_ho, .long d_ga, .ref d_ce, .ref d_th, .ref d_pl, .ref d_ta])), (d_ce, .inl (k 0, 6, .inl d_ceF)), (d_th, .inl (k 0, 6, .inl d_thF)), (d_pl, .inl (k 0, 6, .inl d_plF)), (d_ta, .inl (k 0, 6, .inl d_taF)), (o, .inr (2, [.int o_pe, .int o_ho, .long o_ga, .ref o_ce, .ref o_th, .ref o_pl, .ref o_ta])), (o_ce, .inl (k 0, 6, .inl o_ceF)), (o_th, .inl (k 0, 6, .inl o_thF)), (o_pl, .inl (k 0, 6, .inl o_plF)), (o_ta, .inl (k 0, 6, .inl o_taF))] := hD
  refine lv_aload_n hx hb dX2_copyFrom_8 rfl (lv_at hl 0 rfl) ?_
  refine lv_aload_n hx hb dX2_copyFrom_9 rfl (lv_at hl 1 rfl) ?_
  refine va_get (D := G) (ci := 2) (v := .int o_ho) (C := RX2) (T := TX2) (N := 7) hx hb hts j_s_X2_copyFrom_2 hown hE.K hP 5 rfl rfl 1 (by decide) (hts (.fieldLink RX2 15 "GossamerGate$Day" "hour" "I") (List.mem_cons_of_mem _ (List.mem_append_left _ (List.mem_of_getElem? (i := 1) rfl)))) (fun _ h9 => h9) rfl dX2_copyFrom_10 ?_
  refine va_put (D := G) (ci := 2) (v := .int o_ho) (ty := .int) (C := RX2) (T := TX2) (N := 7) hx hb hts j_s_X2_copyFrom_2 tyX2 tyX2_ok nmX2 hown hE.K hP hD hS 0 rfl rfl 1 (by decide) (hts (.fieldLink RX2 15 "GossamerGate$Day" "hour" "I") (List.mem_cons_of_mem _ (List.mem_append_left _ (List.mem_of_getElem? (i := 1) rfl)))) (fun _ h9 => h9) rfl (by decide +kernel) rfl rfl (Nat.le_of_ble_eq_true rfl) dX2_copyFrom_13 (fun H locs hP hD hS => ?_)
  have hP : va_P G vwCl [(d, .inr (2, [.int o_pe, .int o_ho, .long d_ga, .ref d_ce, .ref d_th, .ref d_pl, .ref d_ta])), (d_ce, .inl (k 0, 6, .inl d_ceF)), (d_th, .inl (k 0, 6, .inl d_thF)), (d_pl, .inl (k 0, 6, .inl d_plF)), (d_ta, .inl (k 0, 6, .inl d_taF)), (o, .inr (2, [.int o_pe, .int o_ho, .long o_ga, .ref o_ce, .ref o_th, .ref o_pl, .ref o_ta])), (o_ce, .inl (k 0, 6, .inl o_ceF)), (o_th, .inl (k 0, 6, .inl o_thF)), (o_pl, .inl (k 0, 6, .inl o_plF)), (o_ta, .inl (k 0, 6, .inl o_taF))] H := hP
  have hD : va_D A [(d, .inr (2, [.int o_pe, .int o_ho, .long d_ga, .ref d_ce, .ref d_th, .ref d_pl, .ref d_ta])), (d_ce, .inl (k 0, 6, .inl d_ceF)), (d_th, .inl (k 0, 6, .inl d_thF)), (d_pl, .inl (k 0, 6, .inl d_plF)), (d_ta, .inl (k 0, 6, .inl d_taF)), (o, .inr (2, [.int o_pe, .int o_ho, .long o_ga, .ref o_ce, .ref o_th, .ref o_pl, .ref o_ta])), (o_ce, .inl (k 0, 6, .inl o_ceF)), (o_th, .inl (k 0, 6, .inl o_thF)), (o_pl, .inl (k 0, 6, .inl o_plF)), (o_ta, .inl (k 0, 6, .inl o_taF))] := hD
  refine lv_aload_n hx hb dX2_copyFrom_16 rfl (lv_at hl 0 rfl) ?_
  refine lv_aload_n hx hb dX2_copyFrom_17 rfl (lv_at hl 1 rfl) ?_
  refine va_get (D := G) (ci := 2) (v := .long o_ga) (C := RX2) (T := TX2) (N := 7) hx hb hts j_s_X2_copyFrom_2 hown hE.K hP 5 rfl rfl 2 (by decide) (hts (.fieldLink RX2 18 "GossamerGate$Day" "gates" "J") (List.mem_cons_of_mem _ (List.mem_append_left _ (List.mem_of_getElem? (i := 2) rfl)))) (fun _ h9 => h9) rfl dX2_copyFrom_18 ?_
  refine va_put (D := G) (ci := 2) (v := .long o_ga) (ty := .long) (C := RX2) (T := TX2) (N := 7) hx hb hts j_s_X2_copyFrom_2 tyX2 tyX2_ok nmX2 hown hE.K hP hD hS 0 rfl rfl 2 (by decide) (hts (.fieldLink RX2 18 "GossamerGate$Day" "gates" "J") (List.mem_cons_of_mem _ (List.mem_append_left _ (List.mem_of_getElem? (i := 2) rfl)))) (fun _ h9 => h9) rfl (by decide +kernel) rfl rfl (Nat.le_of_ble_eq_true rfl) dX2_copyFrom_21 (fun H locs hP hD hS => ?_)
  have hP : va_P G vwCl [(d, .inr (2, [.int o_pe, .int o_ho, .long o_ga, .ref d_ce, .ref d_th, .ref d_pl, .ref d_ta])), (d_ce, .inl (k 0, 6, .inl d_ceF)), (d_th, .inl (k 0, 6, .inl d_thF)), (d_pl, .inl (k 0, 6, .inl d_plF)), (d_ta, .inl (k 0, 6, .inl d_taF)), (o, .inr (2, [.int o_pe, .int o_ho, .long o_ga, .ref o_ce, .ref o_th, .ref o_pl, .ref o_ta])), (o_ce, .inl (k 0, 6, .inl o_ceF)), (o_th, .inl (k 0, 6, .inl o_thF)), (o_pl, .inl (k 0, 6, .inl o_plF)), (o_ta, .inl (k 0, 6, .inl o_taF))] H := hP
  have hD : va_D A [(d, .inr (2, [.int o_pe, .int o_ho, .long o_ga, .ref d_ce, .ref d_th, .ref d_pl, .ref d_ta])), (d_ce, .inl (k 0, 6, .inl d_ceF)), (d_th, .inl (k 0, 6, .inl d_thF)), (d_pl, .inl (k 0, 6, .inl d_plF)), (d_ta, .inl (k 0, 6, .inl d_taF)), (o, .inr (2, [.int o_pe, .int o_ho, .long o_ga, .ref o_ce, .ref o_th, .ref o_pl, .ref o_ta])), (o_ce, .inl (k 0, 6, .inl o_ceF)), (o_th, .inl (k 0, 6, .inl o_thF)), (o_pl, .inl (k 0, 6, .inl o_plF)), (o_ta, .inl (k 0, 6, .inl o_taF))] := hD
  refine lv_aload_n hx hb dX2_copyFrom_24 rfl (lv_at hl 1 rfl) ?_
  refine va_get (D := G) (ci := 2) (v := .ref o_ce) (C := RX2) (T := TX2) (N := 7) hx hb hts j_s_X2_copyFrom_2 hown hE.K hP 5 rfl rfl 3 (by decide) (hts (.fieldLink RX2 22 "GossamerGate$Day" "cell" "[I") (List.mem_cons_of_mem _ (List.mem_append_left _ (List.mem_of_getElem? (i := 3) rfl)))) (fun _ h9 => h9) rfl dX2_copyFrom_25 ?_
  refine lv_iconst (v := 0) hx hb dX2_copyFrom_28 (by decide) ?_
  refine lv_aload_n hx hb dX2_copyFrom_29 rfl (lv_at hl 0 rfl) ?_
  refine va_get (D := G) (ci := 2) (v := .ref d_ce) (C := RX2) (T := TX2) (N := 7) hx hb hts j_s_X2_copyFrom_2 hown hE.K hP 0 rfl rfl 3 (by decide) (hts (.fieldLink RX2 22 "GossamerGate$Day" "cell" "[I") (List.mem_cons_of_mem _ (List.mem_append_left _ (List.mem_of_getElem? (i := 3) rfl)))) (fun _ h9 => h9) rfl dX2_copyFrom_30 ?_
  refine lv_iconst (v := 0) hx hb dX2_copyFrom_33 (by decide) ?_
  refine lv_bipush (v := 6) hx hb dX2_copyFrom_34 (by decide) ?_
  refine va_copyi hx hb (hml.trans hl.1.symm) hown (hts (.methodLink RX2 35 arraycopyName) (List.mem_cons_of_mem _ (List.mem_append_left _ (List.mem_of_getElem? (i := 4) rfl)))) (hts (.native arraycopyName) (List.mem_cons_of_mem _ (List.mem_append_left _ (List.mem_of_getElem? (i := 5) rfl)))) (hts (.static arraycopyName) (List.mem_cons_of_mem _ (List.mem_append_left _ (List.mem_of_getElem? (i := 6) rfl)))) (hts (.initialized "java/lang/System") (List.mem_cons_of_mem _ (List.mem_append_left _ (List.mem_of_getElem? (i := 7) rfl)))) hE.K hP hD hS 6 1 0 0 rfl rfl rfl rfl rfl (by decide) (by decide) (by decide) (by decide) (by decide) (fun _ _ => rfl) (Nat.le_of_ble_eq_true rfl) (Nat.le_of_ble_eq_true rfl) dX2_copyFrom_36 (fun H locs hP hD hS => ?_)
  have hP : va_P G vwCl [(d, .inr (2, [.int o_pe, .int o_ho, .long o_ga, .ref d_ce, .ref d_th, .ref d_pl, .ref d_ta])), (d_ce, .inl (k 0, 6, .inl (va_cpy o_ceF d_ceF 0 0 6))), (d_th, .inl (k 0, 6, .inl d_thF)), (d_pl, .inl (k 0, 6, .inl d_plF)), (d_ta, .inl (k 0, 6, .inl d_taF)), (o, .inr (2, [.int o_pe, .int o_ho, .long o_ga, .ref o_ce, .ref o_th, .ref o_pl, .ref o_ta])), (o_ce, .inl (k 0, 6, .inl o_ceF)), (o_th, .inl (k 0, 6, .inl o_thF)), (o_pl, .inl (k 0, 6, .inl o_plF)), (o_ta, .inl (k 0, 6, .inl o_taF))] H := hP
  have hD : va_D A [(d, .inr (2, [.int o_pe, .int o_ho, .long o_ga, .ref d_ce, .ref d_th, .ref d_pl, .ref d_ta])), (d_ce, .inl (k 0, 6, .inl (va_cpy o_ceF d_ceF 0 0 6))), (d_th, .inl (k 0, 6, .inl d_thF)), (d_pl, .inl (k 0, 6, .inl d_plF)), (d_ta, .inl (k 0, 6, .inl d_taF)), (o, .inr (2, [.int o_pe, .int o_ho, .long o_ga, .ref o_ce, .ref o_th, .ref o_pl, .ref o_ta])), (o_ce, .inl (k 0, 6, .inl o_ceF)), (o_th, .inl (k 0, 6, .inl o_thF)), (o_pl, .inl (k 0, 6, .inl o_plF)), (o_ta, .inl (k 0, 6, .inl o_taF))] := hD
  obtain ⟨f_36, ef_36⟩ : ∃ y : Nat → Int32, y = va_cpy o_ceF d_ceF 0 0 6 := ⟨_, rfl⟩
  rw [← ef_36] at hP hD
  have hP : va_P G vwCl [(d, .inr (2, [.int o_pe, .int o_ho, .long o_ga, .ref d_ce, .ref d_th, .ref d_pl, .ref d_ta])), (d_ce, .inl (k 0, 6, .inl f_36)), (d_th, .inl (k 0, 6, .inl d_thF)), (d_pl, .inl (k 0, 6, .inl d_plF)), (d_ta, .inl (k 0, 6, .inl d_taF)), (o, .inr (2, [.int o_pe, .int o_ho, .long o_ga, .ref o_ce, .ref o_th, .ref o_pl, .ref o_ta])), (o_ce, .inl (k 0, 6, .inl o_ceF)), (o_th, .inl (k 0, 6, .inl o_thF)), (o_pl, .inl (k 0, 6, .inl o_plF)), (o_ta, .inl (k 0, 6, .inl o_taF))] H := hP
  have hD : va_D A [(d, .inr (2, [.int o_pe, .int o_ho, .long o_ga, .ref d_ce, .ref d_th, .ref d_pl, .ref d_ta])), (d_ce, .inl (k 0, 6, .inl f_36)), (d_th, .inl (k 0, 6, .inl d_thF)), (d_pl, .inl (k 0, 6, .inl d_plF)), (d_ta, .inl (k 0, 6, .inl d_taF)), (o, .inr (2, [.int o_pe, .int o_ho, .long o_ga, .ref o_ce, .ref o_th, .ref o_pl, .ref o_ta])), (o_ce, .inl (k 0, 6, .inl o_ceF)), (o_th, .inl (k 0, 6, .inl o_thF)), (o_pl, .inl (k 0, 6, .inl o_plF)), (o_ta, .inl (k 0, 6, .inl o_taF))] := hD
  refine lv_aload_n hx hb dX2_copyFrom_39 rfl (lv_at hl 1 rfl) ?_
  refine va_get (D := G) (ci := 2) (v := .ref o_th) (C := RX2) (T := TX2) (N := 7) hx hb hts j_s_X2_copyFrom_2 hown hE.K hP 5 rfl rfl 4 (by decide) (hts (.fieldLink RX2 26 "GossamerGate$Day" "thread" "[I") (List.mem_cons_of_mem _ (List.mem_append_left _ (List.mem_of_getElem? (i := 8) rfl)))) (fun _ h9 => h9) rfl dX2_copyFrom_40 ?_
  refine lv_iconst (v := 0) hx hb dX2_copyFrom_43 (by decide) ?_
  refine lv_aload_n hx hb dX2_copyFrom_44 rfl (lv_at hl 0 rfl) ?_
  refine va_get (D := G) (ci := 2) (v := .ref d_th) (C := RX2) (T := TX2) (N := 7) hx hb hts j_s_X2_copyFrom_2 hown hE.K hP 0 rfl rfl 4 (by decide) (hts (.fieldLink RX2 26 "GossamerGate$Day" "thread" "[I") (List.mem_cons_of_mem _ (List.mem_append_left _ (List.mem_of_getElem? (i := 8) rfl)))) (fun _ h9 => h9) rfl dX2_copyFrom_45 ?_
  refine lv_iconst (v := 0) hx hb dX2_copyFrom_48 (by decide) ?_
  refine lv_bipush (v := 6) hx hb dX2_copyFrom_49 (by decide) ?_
  refine va_copyi hx hb (hml.trans hl.1.symm) hown (hts (.methodLink RX2 35 arraycopyName) (List.mem_cons_of_mem _ (List.mem_append_left _ (List.mem_of_getElem? (i := 4) rfl)))) (hts (.native arraycopyName) (List.mem_cons_of_mem _ (List.mem_append_left _ (List.mem_of_getElem? (i := 5) rfl)))) (hts (.static arraycopyName) (List.mem_cons_of_mem _ (List.mem_append_left _ (List.mem_of_getElem? (i := 6) rfl)))) (hts (.initialized "java/lang/System") (List.mem_cons_of_mem _ (List.mem_append_left _ (List.mem_of_getElem? (i := 7) rfl)))) hE.K hP hD hS 7 2 0 0 rfl rfl rfl rfl rfl (by decide) (by decide) (by decide) (by decide) (by decide) (fun _ _ => rfl) (Nat.le_of_ble_eq_true rfl) (Nat.le_of_ble_eq_true rfl) dX2_copyFrom_51 (fun H locs hP hD hS => ?_)
  have hP : va_P G vwCl [(d, .inr (2, [.int o_pe, .int o_ho, .long o_ga, .ref d_ce, .ref d_th, .ref d_pl, .ref d_ta])), (d_ce, .inl (k 0, 6, .inl f_36)), (d_th, .inl (k 0, 6, .inl (va_cpy o_thF d_thF 0 0 6))), (d_pl, .inl (k 0, 6, .inl d_plF)), (d_ta, .inl (k 0, 6, .inl d_taF)), (o, .inr (2, [.int o_pe, .int o_ho, .long o_ga, .ref o_ce, .ref o_th, .ref o_pl, .ref o_ta])), (o_ce, .inl (k 0, 6, .inl o_ceF)), (o_th, .inl (k 0, 6, .inl o_thF)), (o_pl, .inl (k 0, 6, .inl o_plF)), (o_ta, .inl (k 0, 6, .inl o_taF))] H := hP
  have hD : va_D A [(d, .inr (2, [.int o_pe, .int o_ho, .long o_ga, .ref d_ce, .ref d_th, .ref d_pl, .ref d_ta])), (d_ce, .inl (k 0, 6, .inl f_36)), (d_th, .inl (k 0, 6, .inl (va_cpy o_thF d_thF 0 0 6))), (d_pl, .inl (k 0, 6, .inl d_plF)), (d_ta, .inl (k 0, 6, .inl d_taF)), (o, .inr (2, [.int o_pe, .int o_ho, .long o_ga, .ref o_ce, .ref o_th, .ref o_pl, .ref o_ta])), (o_ce, .inl (k 0, 6, .inl o_ceF)), (o_th, .inl (k 0, 6, .inl o_thF)), (o_pl, .inl (k 0, 6, .inl o_plF)), (o_ta, .inl (k 0, 6, .inl o_taF))] := hD
  obtain ⟨f_51, ef_51⟩ : ∃ y : Nat → Int32, y = va_cpy o_thF d_thF 0 0 6 := ⟨_, rfl⟩
  rw [← ef_51] at hP hD
  have hP : va_P G vwCl [(d, .inr (2, [.int o_pe, .int o_ho, .long o_ga, .ref d_ce, .ref d_th, .ref d_pl, .ref d_ta])), (d_ce, .inl (k 0, 6, .inl f_36)), (d_th, .inl (k 0, 6, .inl f_51)), (d_pl, .inl (k 0, 6, .inl d_plF)), (d_ta, .inl (k 0, 6, .inl d_taF)), (o, .inr (2, [.int o_pe, .int o_ho, .long o_ga, .ref o_ce, .ref o_th, .ref o_pl, .ref o_ta])), (o_ce, .inl (k 0, 6, .inl o_ceF)), (o_th, .inl (k 0, 6, .inl o_thF)), (o_pl, .inl (k 0, 6, .inl o_plF)), (o_ta, .inl (k 0, 6, .inl o_taF))] H := hP
  have hD : va_D A [(d, .inr (2, [.int o_pe, .int o_ho, .long o_ga, .ref d_ce, .ref d_th, .ref d_pl, .ref d_ta])), (d_ce, .inl (k 0, 6, .inl f_36)), (d_th, .inl (k 0, 6, .inl f_51)), (d_pl, .inl (k 0, 6, .inl d_plF)), (d_ta, .inl (k 0, 6, .inl d_taF)), (o, .inr (2, [.int o_pe, .int o_ho, .long o_ga, .ref o_ce, .ref o_th, .ref o_pl, .ref o_ta])), (o_ce, .inl (k 0, 6, .inl o_ceF)), (o_th, .inl (k 0, 6, .inl o_thF)), (o_pl, .inl (k 0, 6, .inl o_plF)), (o_ta, .inl (k 0, 6, .inl o_taF))] := hD
  refine lv_aload_n hx hb dX2_copyFrom_54 rfl (lv_at hl 1 rfl) ?_
  refine va_get (D := G) (ci := 2) (v := .ref o_pl) (C := RX2) (T := TX2) (N := 7) hx hb hts j_s_X2_copyFrom_2 hown hE.K hP 5 rfl rfl 5 (by decide) (hts (.fieldLink RX2 29 "GossamerGate$Day" "place" "[I") (List.mem_cons_of_mem _ (List.mem_append_left _ (List.mem_of_getElem? (i := 9) rfl)))) (fun _ h9 => h9) rfl dX2_copyFrom_55 ?_
  refine lv_iconst (v := 0) hx hb dX2_copyFrom_58 (by decide) ?_
  refine lv_aload_n hx hb dX2_copyFrom_59 rfl (lv_at hl 0 rfl) ?_
  refine va_get (D := G) (ci := 2) (v := .ref d_pl) (C := RX2) (T := TX2) (N := 7) hx hb hts j_s_X2_copyFrom_2 hown hE.K hP 0 rfl rfl 5 (by decide) (hts (.fieldLink RX2 29 "GossamerGate$Day" "place" "[I") (List.mem_cons_of_mem _ (List.mem_append_left _ (List.mem_of_getElem? (i := 9) rfl)))) (fun _ h9 => h9) rfl dX2_copyFrom_60 ?_
  refine lv_iconst (v := 0) hx hb dX2_copyFrom_63 (by decide) ?_
  refine lv_bipush (v := 6) hx hb dX2_copyFrom_64 (by decide) ?_
  refine va_copyi hx hb (hml.trans hl.1.symm) hown (hts (.methodLink RX2 35 arraycopyName) (List.mem_cons_of_mem _ (List.mem_append_left _ (List.mem_of_getElem? (i := 4) rfl)))) (hts (.native arraycopyName) (List.mem_cons_of_mem _ (List.mem_append_left _ (List.mem_of_getElem? (i := 5) rfl)))) (hts (.static arraycopyName) (List.mem_cons_of_mem _ (List.mem_append_left _ (List.mem_of_getElem? (i := 6) rfl)))) (hts (.initialized "java/lang/System") (List.mem_cons_of_mem _ (List.mem_append_left _ (List.mem_of_getElem? (i := 7) rfl)))) hE.K hP hD hS 8 3 0 0 rfl rfl rfl rfl rfl (by decide) (by decide) (by decide) (by decide) (by decide) (fun _ _ => rfl) (Nat.le_of_ble_eq_true rfl) (Nat.le_of_ble_eq_true rfl) dX2_copyFrom_66 (fun H locs hP hD hS => ?_)
  have hP : va_P G vwCl [(d, .inr (2, [.int o_pe, .int o_ho, .long o_ga, .ref d_ce, .ref d_th, .ref d_pl, .ref d_ta])), (d_ce, .inl (k 0, 6, .inl f_36)), (d_th, .inl (k 0, 6, .inl f_51)), (d_pl, .inl (k 0, 6, .inl (va_cpy o_plF d_plF 0 0 6))), (d_ta, .inl (k 0, 6, .inl d_taF)), (o, .inr (2, [.int o_pe, .int o_ho, .long o_ga, .ref o_ce, .ref o_th, .ref o_pl, .ref o_ta])), (o_ce, .inl (k 0, 6, .inl o_ceF)), (o_th, .inl (k 0, 6, .inl o_thF)), (o_pl, .inl (k 0, 6, .inl o_plF)), (o_ta, .inl (k 0, 6, .inl o_taF))] H := hP
  have hD : va_D A [(d, .inr (2, [.int o_pe, .int o_ho, .long o_ga, .ref d_ce, .ref d_th, .ref d_pl, .ref d_ta])), (d_ce, .inl (k 0, 6, .inl f_36)), (d_th, .inl (k 0, 6, .inl f_51)), (d_pl, .inl (k 0, 6, .inl (va_cpy o_plF d_plF 0 0 6))), (d_ta, .inl (k 0, 6, .inl d_taF)), (o, .inr (2, [.int o_pe, .int o_ho, .long o_ga, .ref o_ce, .ref o_th, .ref o_pl, .ref o_ta])), (o_ce, .inl (k 0, 6, .inl o_ceF)), (o_th, .inl (k 0, 6, .inl o_thF)), (o_pl, .inl (k 0, 6, .inl o_plF)), (o_ta, .inl (k 0, 6, .inl o_taF))] := hD
  obtain ⟨f_66, ef_66⟩ : ∃ y : Nat → Int32, y = va_cpy o_plF d_plF 0 0 6 := ⟨_, rfl⟩
  rw [← ef_66] at hP hD
  have hP : va_P G vwCl [(d, .inr (2, [.int o_pe, .int o_ho, .long o_ga, .ref d_ce, .ref d_th, .ref d_pl, .ref d_ta])), (d_ce, .inl (k 0, 6, .inl f_36)), (d_th, .inl (k 0, 6, .inl f_51)), (d_pl, .inl (k 0, 6, .inl f_66)), (d_ta, .inl (k 0, 6, .inl d_taF)), (o, .inr (2, [.int o_pe, .int o_ho, .long o_ga, .ref o_ce, .ref o_th, .ref o_pl, .ref o_ta])), (o_ce, .inl (k 0, 6, .inl o_ceF)), (o_th, .inl (k 0, 6, .inl o_thF)), (o_pl, .inl (k 0, 6, .inl o_plF)), (o_ta, .inl (k 0, 6, .inl o_taF))] H := hP
  have hD : va_D A [(d, .inr (2, [.int o_pe, .int o_ho, .long o_ga, .ref d_ce, .ref d_th, .ref d_pl, .ref d_ta])), (d_ce, .inl (k 0, 6, .inl f_36)), (d_th, .inl (k 0, 6, .inl f_51)), (d_pl, .inl (k 0, 6, .inl f_66)), (d_ta, .inl (k 0, 6, .inl d_taF)), (o, .inr (2, [.int o_pe, .int o_ho, .long o_ga, .ref o_ce, .ref o_th, .ref o_pl, .ref o_ta])), (o_ce, .inl (k 0, 6, .inl o_ceF)), (o_th, .inl (k 0, 6, .inl o_thF)), (o_pl, .inl (k 0, 6, .inl o_plF)), (o_ta, .inl (k 0, 6, .inl o_taF))] := hD
  refine lv_aload_n hx hb dX2_copyFrom_69 rfl (lv_at hl 1 rfl) ?_
  refine va_get (D := G) (ci := 2) (v := .ref o_ta) (C := RX2) (T := TX2) (N := 7) hx hb hts j_s_X2_copyFrom_2 hown hE.K hP 5 rfl rfl 6 (by decide) (hts (.fieldLink RX2 32 "GossamerGate$Day" "tangled" "[I") (List.mem_cons_of_mem _ (List.mem_append_left _ (List.mem_of_getElem? (i := 10) rfl)))) (fun _ h9 => h9) rfl dX2_copyFrom_70 ?_
  refine lv_iconst (v := 0) hx hb dX2_copyFrom_73 (by decide) ?_
  refine lv_aload_n hx hb dX2_copyFrom_74 rfl (lv_at hl 0 rfl) ?_
  refine va_get (D := G) (ci := 2) (v := .ref d_ta) (C := RX2) (T := TX2) (N := 7) hx hb hts j_s_X2_copyFrom_2 hown hE.K hP 0 rfl rfl 6 (by decide) (hts (.fieldLink RX2 32 "GossamerGate$Day" "tangled" "[I") (List.mem_cons_of_mem _ (List.mem_append_left _ (List.mem_of_getElem? (i := 10) rfl)))) (fun _ h9 => h9) rfl dX2_copyFrom_75 ?_
  refine lv_iconst (v := 0) hx hb dX2_copyFrom_78 (by decide) ?_
  refine lv_bipush (v := 6) hx hb dX2_copyFrom_79 (by decide) ?_
  refine va_copyi hx hb (hml.trans hl.1.symm) hown (hts (.methodLink RX2 35 arraycopyName) (List.mem_cons_of_mem _ (List.mem_append_left _ (List.mem_of_getElem? (i := 4) rfl)))) (hts (.native arraycopyName) (List.mem_cons_of_mem _ (List.mem_append_left _ (List.mem_of_getElem? (i := 5) rfl)))) (hts (.static arraycopyName) (List.mem_cons_of_mem _ (List.mem_append_left _ (List.mem_of_getElem? (i := 6) rfl)))) (hts (.initialized "java/lang/System") (List.mem_cons_of_mem _ (List.mem_append_left _ (List.mem_of_getElem? (i := 7) rfl)))) hE.K hP hD hS 9 4 0 0 rfl rfl rfl rfl rfl (by decide) (by decide) (by decide) (by decide) (by decide) (fun _ _ => rfl) (Nat.le_of_ble_eq_true rfl) (Nat.le_of_ble_eq_true rfl) dX2_copyFrom_81 (fun H locs hP hD hS => ?_)
  have hP : va_P G vwCl [(d, .inr (2, [.int o_pe, .int o_ho, .long o_ga, .ref d_ce, .ref d_th, .ref d_pl, .ref d_ta])), (d_ce, .inl (k 0, 6, .inl f_36)), (d_th, .inl (k 0, 6, .inl f_51)), (d_pl, .inl (k 0, 6, .inl f_66)), (d_ta, .inl (k 0, 6, .inl (va_cpy o_taF d_taF 0 0 6))), (o, .inr (2, [.int o_pe, .int o_ho, .long o_ga, .ref o_ce, .ref o_th, .ref o_pl, .ref o_ta])), (o_ce, .inl (k 0, 6, .inl o_ceF)), (o_th, .inl (k 0, 6, .inl o_thF)), (o_pl, .inl (k 0, 6, .inl o_plF)), (o_ta, .inl (k 0, 6, .inl o_taF))] H := hP
  have hD : va_D A [(d, .inr (2, [.int o_pe, .int o_ho, .long o_ga, .ref d_ce, .ref d_th, .ref d_pl, .ref d_ta])), (d_ce, .inl (k 0, 6, .inl f_36)), (d_th, .inl (k 0, 6, .inl f_51)), (d_pl, .inl (k 0, 6, .inl f_66)), (d_ta, .inl (k 0, 6, .inl (va_cpy o_taF d_taF 0 0 6))), (o, .inr (2, [.int o_pe, .int o_ho, .long o_ga, .ref o_ce, .ref o_th, .ref o_pl, .ref o_ta])), (o_ce, .inl (k 0, 6, .inl o_ceF)), (o_th, .inl (k 0, 6, .inl o_thF)), (o_pl, .inl (k 0, 6, .inl o_plF)), (o_ta, .inl (k 0, 6, .inl o_taF))] := hD
  obtain ⟨f_81, ef_81⟩ : ∃ y : Nat → Int32, y = va_cpy o_taF d_taF 0 0 6 := ⟨_, rfl⟩
  rw [← ef_81] at hP hD
  have hP : va_P G vwCl [(d, .inr (2, [.int o_pe, .int o_ho, .long o_ga, .ref d_ce, .ref d_th, .ref d_pl, .ref d_ta])), (d_ce, .inl (k 0, 6, .inl f_36)), (d_th, .inl (k 0, 6, .inl f_51)), (d_pl, .inl (k 0, 6, .inl f_66)), (d_ta, .inl (k 0, 6, .inl f_81)), (o, .inr (2, [.int o_pe, .int o_ho, .long o_ga, .ref o_ce, .ref o_th, .ref o_pl, .ref o_ta])), (o_ce, .inl (k 0, 6, .inl o_ceF)), (o_th, .inl (k 0, 6, .inl o_thF)), (o_pl, .inl (k 0, 6, .inl o_plF)), (o_ta, .inl (k 0, 6, .inl o_taF))] H := hP
  have hD : va_D A [(d, .inr (2, [.int o_pe, .int o_ho, .long o_ga, .ref d_ce, .ref d_th, .ref d_pl, .ref d_ta])), (d_ce, .inl (k 0, 6, .inl f_36)), (d_th, .inl (k 0, 6, .inl f_51)), (d_pl, .inl (k 0, 6, .inl f_66)), (d_ta, .inl (k 0, 6, .inl f_81)), (o, .inr (2, [.int o_pe, .int o_ho, .long o_ga, .ref o_ce, .ref o_th, .ref o_pl, .ref o_ta])), (o_ce, .inl (k 0, 6, .inl o_ceF)), (o_th, .inl (k 0, 6, .inl o_thF)), (o_pl, .inl (k 0, 6, .inl o_plF)), (o_ta, .inl (k 0, 6, .inl o_taF))] := hD
  have hP9 := hP.sub (ws' := ((fun u : gS => [(d, .inr (2, [.int o_pe, .int o_ho, .long o_ga, .ref d_ce, .ref d_th, .ref d_pl, .ref d_ta])), (d_ce, .inl (k 0, 6, .inl (u.2.1 1000))), (d_th, .inl (k 0, 6, .inl (u.2.1 1003))), (d_pl, .inl (k 0, 6, .inl (u.2.1 1001))), (d_ta, .inl (k 0, 6, .inl (u.2.1 1002))), (o, .inr (2, [.int o_pe, .int o_ho, .long o_ga, .ref o_ce, .ref o_th, .ref o_pl, .ref o_ta])), (o_ce, .inl (k 0, 6, .inl o_ceF)), (o_th, .inl (k 0, 6, .inl o_thF)), (o_pl, .inl (k 0, 6, .inl o_plF)), (o_ta, .inl (k 0, 6, .inl o_taF))]) ((fun _ => 0), (gU (gU (gU (gU (fun _ _ => 0) 1000 f_36) 1001 f_66) 1002 f_81) 1003 f_51), (fun _ => 0), (fun _ _ => 0), (fun _ => none)))) [0, 1, 2, 3, 4, 5, 6, 7, 8, 9] rfl
  have hD9 := hD.sub (ws' := ((fun u : gS => [(d, .inr (2, [.int o_pe, .int o_ho, .long o_ga, .ref d_ce, .ref d_th, .ref d_pl, .ref d_ta])), (d_ce, .inl (k 0, 6, .inl (u.2.1 1000))), (d_th, .inl (k 0, 6, .inl (u.2.1 1003))), (d_pl, .inl (k 0, 6, .inl (u.2.1 1001))), (d_ta, .inl (k 0, 6, .inl (u.2.1 1002))), (o, .inr (2, [.int o_pe, .int o_ho, .long o_ga, .ref o_ce, .ref o_th, .ref o_pl, .ref o_ta])), (o_ce, .inl (k 0, 6, .inl o_ceF)), (o_th, .inl (k 0, 6, .inl o_thF)), (o_pl, .inl (k 0, 6, .inl o_plF)), (o_ta, .inl (k 0, 6, .inl o_taF))]) ((fun _ => 0), (gU (gU (gU (gU (fun _ _ => 0) 1000 f_36) 1001 f_66) 1002 f_81) 1003 f_51), (fun _ => 0), (fun _ _ => 0), (fun _ => none)))) [0, 1, 2, 3, 4, 5, 6, 7, 8, 9] (by decide) rfl
  exact W.vret hx hb hr (fun t ht hW => ⟨⟨((fun _ => 0), (gU (gU (gU (gU (fun _ _ => 0) 1000 f_36) 1001 f_66) 1002 f_81) 1003 f_51), (fun _ => 0), (fun _ _ => 0), (fun _ => none)), rfl, trivial, by rw [ht]; exact hP9, hD9⟩, hS.F ht⟩) hS.2.2 dX2_copyFrom_84
set_option maxHeartbeats 4000000 in
set_option maxRecDepth 100000 in
theorem s_X2_hasGate (l : Launch) (G : va_G) (k : Nat → ClassId) (sa : Nat → Nat) (d : Nat) (d_pe : Int32) (d_ho : Int32) (d_ga : Int64) (d_ce : Nat) (d_th : Nat) (d_pl : Nat) (d_ta : Nat) (a : Int32) : Met l yX2_hasGate vs_s_X2_hasGate ({ frames := 0, cells := 0, slots := 0, locals := 0 } : Room) (gR G k sa [.ref d, .int a] [(d, .inr (2, [.int d_pe, .int d_ho, .long d_ga, .ref d_ce, .ref d_th, .ref d_pl, .ref d_ta]))]) (vp_Si (fun r => gIv 0 1 r)) 0 0 (fun _ => False) := by
  refine gz_metR (cc := cX2_hasGate) (maxL := 2) (ret := (some .boolean)) (by decide) rfl (Nat.le_of_ble_eq_true rfl) ?_
  intro p_ e_ s_ m below_ meth_ c_ ls hx hb hr hml hts hown hlocks hP hE hZ hS hl
  have hl : lv_has ls 2 [(0, .ref d), (1, .int a)] := hl
  have hB_18 : ∀ (g18_0 : Int32) (ls : Array Slot), gIv 0 1 g18_0 → lv_has ls 2 [] → W p_ l e_ (headSpec vs_s_X2_hasGate ({ frames := 0, cells := 0, slots := 0, locals := 0 } : Room)).room s_ m [.ref d, .int a].toArray below_ meth_ c_ s_.heap [] 0 0 (MQ below_ (vp_Si (fun r => gIv 0 1 r)) [.ref d, .int a].toArray s_ 0 0 (fun _ => False)) (F0 m 18 ls [.int g18_0]) := by
    intro g18_0 ls b18_0 hl
    exact W.zret (v := g18_0) hx hb hr (gIv_z b18_0) (fun t ht hW => ⟨g18_0, rfl, b18_0, ht⟩) (fun _ h9 => absurd h9 List.not_mem_nil) dX2_hasGate_18
  refine lv_aload_n hx hb dX2_hasGate_0 rfl (lv_at hl 0 rfl) ?_
  refine va_get (D := G) (ci := 2) (v := .long d_ga) (C := RX2) (T := TX2) (N := 7) hx hb hts j_s_X2_hasGate_2 hown hE.K hP 0 rfl rfl 2 (by decide) (hts (.fieldLink RX2 18 "GossamerGate$Day" "gates" "J") (List.mem_cons_of_mem _ (List.mem_append_left _ (List.mem_of_getElem? (i := 0) rfl)))) (fun _ h9 => h9) rfl dX2_hasGate_1 ?_
  refine lv_iload_n hx hb dX2_hasGate_4 rfl (lv_at hl 1 rfl) ?_
  obtain ⟨x_5, ex_5⟩ : ∃ y : Int64, y = d_ga >>> (a.toInt64 &&& 63) := ⟨_, rfl⟩
  refine lv_lshr (v := x_5) hx hb dX2_hasGate_5 ex_5.symm ?_
  refine lv_lconst (v := 1) hx hb dX2_hasGate_6 (by decide) ?_
  refine lv_land hx hb dX2_hasGate_7 ?_
  refine lv_topl (fun x_7 ex_7 => ?_)
  refine lv_lconst (v := 0) hx hb dX2_hasGate_8 (by decide) ?_
  refine W.lcmp hx hb dX2_hasGate_9 ?_
  refine lv_topi (fun x_9 ex_9 => ?_)
  have hx_9 : gIv (-1) 1 x_9 := gIv_eq (gIv_cmp _ _) ex_9
  refine lv_if_eq (tgt := 17) hx hb dX2_hasGate_10 (by decide) (fun c_10 => ?_) (fun c_10 => ?_)
  · have h10_x_9 : gIv 0 0 x_9 := gIv_eqc hx_9 (gIv_of (a := 0) (b := 0) (x := 0) (by decide)) c_10 (by decide)
    refine lv_iconst (v := 0) hx hb dX2_hasGate_17 (by decide) ?_
    exact hB_18 0 ls (gIv_of (a := 0) (b := 1) (x := 0) (by decide)) (lv_sub hl [] rfl)
  · refine lv_iconst (v := 1) hx hb dX2_hasGate_13 (by decide) ?_
    refine lv_goto (tgt := 18) hx hb dX2_hasGate_14 (by decide) ?_
    exact hB_18 1 ls (gIv_of (a := 0) (b := 1) (x := 1) (by decide)) (lv_sub hl [] rfl)
set_option maxHeartbeats 4000000 in
set_option maxRecDepth 100000 in
theorem s_X2_turnGate (l : Launch) (G : va_G) (k : Nat → ClassId) (sa : Nat → Nat) (sz : Nat) (d : Nat) (d_pe : Int32) (d_ho : Int32) (d_ga : Int64) (d_ce : Nat) (d_th : Nat) (d_pl : Nat) (d_ta : Nat) (a : Int32) : Met l yX2_turnGate vs_s_X2_turnGate ({ frames := 0, cells := 0, slots := 0, locals := 0 } : Room) (gP G k sa [.ref d, .int a] [(d, .inr (2, [.int d_pe, .int d_ho, .long d_ga, .ref d_ce, .ref d_th, .ref d_pl, .ref d_ta]))] sz) (va_Qv (fun u : gS => True) (gO G (va_A [(d, .inr (2, [.int d_pe, .int d_ho, .long d_ga, .ref d_ce, .ref d_th, .ref d_pl, .ref d_ta]))] sz) (fun u : gS => [(d, .inr (2, [.int d_pe, .int d_ho, .long (u.2.2.1 1000), .ref d_ce, .ref d_th, .ref d_pl, .ref d_ta]))])) (va_A [(d, .inr (2, [.int d_pe, .int d_ho, .long d_ga, .ref d_ce, .ref d_th, .ref d_pl, .ref d_ta]))] sz)) 0 0 (va_A [(d, .inr (2, [.int d_pe, .int d_ho, .long d_ga, .ref d_ce, .ref d_th, .ref d_pl, .ref d_ta]))] sz) := by
  refine gz_met (cc := cX2_turnGate) (maxL := 2) (ret := none) (by decide) rfl (Nat.le_of_ble_eq_true rfl) ?_
  intro p_ e_ s_ m below_ meth_ c_ ls hx hb hr hml hts hown hlocks hin hP hE hZ hD hA hS
  generalize hAe : va_A [(d, .inr (2, [.int d_pe, .int d_ho, .long d_ga, .ref d_ce, .ref d_th, .ref d_pl, .ref d_ta]))] sz = A at hZ hD hA hS ⊢
  intro hl
  have hl : lv_has ls 2 [(0, .ref d), (1, .int a)] := hl
  refine lv_aload_n hx hb dX2_turnGate_0 rfl (lv_at hl 0 rfl) ?_
  refine lv_dup hx hb dX2_turnGate_1 rfl ?_
  refine va_get (D := G) (ci := 2) (v := .long d_ga) (C := RX2) (T := TX2) (N := 7) hx hb hts j_s_X2_turnGate_2 hown hE.K hP 0 rfl rfl 2 (by decide) (hts (.fieldLink RX2 18 "GossamerGate$Day" "gates" "J") (List.mem_cons_of_mem _ (List.mem_append_left _ (List.mem_of_getElem? (i := 0) rfl)))) (fun _ h9 => h9) rfl dX2_turnGate_2 ?_
  refine lv_lconst (v := 1) hx hb dX2_turnGate_5 (by decide) ?_
  refine lv_iload_n hx hb dX2_turnGate_6 rfl (lv_at hl 1 rfl) ?_
  obtain ⟨x_7, ex_7⟩ : ∃ y : Int64, y = (1 : Int64) <<< (a.toInt64 &&& 63) := ⟨_, rfl⟩
  refine lv_lshl (v := x_7) hx hb dX2_turnGate_7 ex_7.symm ?_
  refine lv_lxor hx hb dX2_turnGate_8 ?_
  refine lv_topl (fun x_8 ex_8 => ?_)
  refine va_put (D := G) (ci := 2) (v := .long x_8) (ty := .long) (C := RX2) (T := TX2) (N := 7) hx hb hts j_s_X2_turnGate_2 tyX2 tyX2_ok nmX2 hown hE.K hP hD hS 0 rfl rfl 2 (by decide) (hts (.fieldLink RX2 18 "GossamerGate$Day" "gates" "J") (List.mem_cons_of_mem _ (List.mem_append_left _ (List.mem_of_getElem? (i := 0) rfl)))) (fun _ h9 => h9) rfl (by decide +kernel) rfl rfl (Nat.le_of_ble_eq_true rfl) dX2_turnGate_9 (fun H locs hP hD hS => ?_)
  have hP : va_P G vwCl [(d, .inr (2, [.int d_pe, .int d_ho, .long x_8, .ref d_ce, .ref d_th, .ref d_pl, .ref d_ta]))] H := hP
  have hD : va_D A [(d, .inr (2, [.int d_pe, .int d_ho, .long x_8, .ref d_ce, .ref d_th, .ref d_pl, .ref d_ta]))] := hD
  have hP9 := hP.sub (ws' := ((fun u : gS => [(d, .inr (2, [.int d_pe, .int d_ho, .long (u.2.2.1 1000), .ref d_ce, .ref d_th, .ref d_pl, .ref d_ta]))]) ((fun _ => 0), (fun _ _ => 0), (gU (fun _ => 0) 1000 x_8), (fun _ _ => 0), (fun _ => none)))) [0] rfl
  have hD9 := hD.sub (ws' := ((fun u : gS => [(d, .inr (2, [.int d_pe, .int d_ho, .long (u.2.2.1 1000), .ref d_ce, .ref d_th, .ref d_pl, .ref d_ta]))]) ((fun _ => 0), (fun _ _ => 0), (gU (fun _ => 0) 1000 x_8), (fun _ _ => 0), (fun _ => none)))) [0] (by decide) rfl
  exact W.vret hx hb hr (fun t ht hW => ⟨⟨((fun _ => 0), (fun _ _ => 0), (gU (fun _ => 0) 1000 x_8), (fun _ _ => 0), (fun _ => none)), rfl, trivial, by rw [ht]; exact hP9, hD9⟩, hS.F ht⟩) hS.2.2 dX2_turnGate_12
set_option maxHeartbeats 4000000 in
set_option maxRecDepth 100000 in
theorem s_X2_bitsIn (l : Launch) (G : va_G) (k : Nat → ClassId) (sa : Nat → Nat) (d : Nat) (d_pe : Int32) (d_ho : Int32) (d_ga : Int64) (d_ce : Nat) (d_th : Nat) (d_pl : Nat) (d_plF : Nat → Int32) (d_ta : Nat) (a : Int32) (h_d_pe : gIv 0 6 d_pe) : Met l yX2_bitsIn vs_s_X2_bitsIn ({ frames := 0, cells := 0, slots := 0, locals := 0 } : Room) (gR G k sa [.ref d, .int a] [(d, .inr (2, [.int d_pe, .int d_ho, .long d_ga, .ref d_ce, .ref d_th, .ref d_pl, .ref d_ta])), (d_pl, .inl (k 0, 6, .inl d_plF))]) (vp_Si (fun r => True)) 0 0 (fun _ => False) := by
  refine gz_metR (cc := cX2_bitsIn) (maxL := 4) (ret := (some .int)) (by decide) rfl (Nat.le_of_ble_eq_true rfl) ?_
  intro p_ e_ s_ m below_ meth_ c_ ls hx hb hr hml hts hown hlocks hP hE hZ hS hl
  have hl : lv_has ls 4 [(0, .ref d), (1, .int a)] := hl
  have hL_4 : ∀ (n : Nat) (g4_0 : Int32) (g4_1 : Int32) (ls : Array Slot), gIv 0 6 g4_1 → (6 - g4_1.toInt).toNat < n → lv_has ls 4 [(0, .ref d), (1, .int a), (2, .int g4_0), (3, .int g4_1)] → W p_ l e_ (headSpec vs_s_X2_bitsIn ({ frames := 0, cells := 0, slots := 0, locals := 0 } : Room)).room s_ m [.ref d, .int a].toArray below_ meth_ c_ s_.heap [] 0 0 (MQ below_ (vp_Si (fun r => True)) [.ref d, .int a].toArray s_ 0 0 (fun _ => False)) (F0 m 4 ls []) := by
    intro n
    induction n with
    | zero => intro g4_0 g4_1 ls b4_0 hm_4 hl; exact absurd hm_4 (Nat.not_lt_zero _)
    | succ n ih_4 =>
      intro g4_0 g4_1 ls b4_0 hm_4 hl
      have hB_28 : ∀ (g28_0 : Int32) (ls : Array Slot), gIv 0 5 g4_1 → gIv 1 6 d_pe → lv_has ls 4 [(0, .ref d), (1, .int a), (2, .int g28_0), (3, .int g4_1)] → W p_ l e_ (headSpec vs_s_X2_bitsIn ({ frames := 0, cells := 0, slots := 0, locals := 0 } : Room)).room s_ m [.ref d, .int a].toArray below_ meth_ c_ s_.heap [] 0 0 (MQ below_ (vp_Si (fun r => True)) [.ref d, .int a].toArray s_ 0 0 (fun _ => False)) (F0 m 28 ls []) := by
        intro g28_0 ls b28_0 b28_1 hl
        obtain ⟨x_28, ex_28⟩ : ∃ y : Int32, y = g4_1 + 1 := ⟨_, rfl⟩
        refine lv_iinc (v := x_28) (lv' := [(3, .int x_28), (0, .ref d), (1, .int a), (2, .int g28_0)]) hx hb dX2_bitsIn_28 hl (k := 3) rfl (by rw [ex_28]; rfl) (by decide) rfl (fun ls hl => ?_)
        have hx_28 : gIv 1 6 x_28 := gIv_eq (gIv_add b28_0 (gIv_of (a := 1) (b := 1) (by decide)) (by decide) (by decide)) ex_28
        have ix_28 : x_28.toInt = g4_1.toInt + 1 := gI_add ex_28 b28_0 (by decide) (by decide)
        refine lv_goto (tgt := 4) hx hb dX2_bitsIn_31 (by decide) ?_
        exact ih_4 g28_0 x_28 ls (gIv_w (a' := 0) (b' := 6) hx_28 (by decide) (by decide)) (gM_up ix_28 ((gIv_w (a' := 0) (b' := 6) hx_28 (by decide) (by decide))).2 hm_4 (by decide)) (lv_sub hl [1, 2, 3, 0] rfl)
      refine lv_iload_n hx hb dX2_bitsIn_4 rfl (lv_at hl 3 rfl) ?_
      refine lv_aload_n hx hb dX2_bitsIn_5 rfl (lv_at hl 0 rfl) ?_
      refine va_get (D := G) (ci := 2) (v := .int d_pe) (C := RX2) (T := TX2) (N := 7) hx hb hts j_s_X2_bitsIn_2 hown hE.K hP 0 rfl rfl 0 (by decide) (hts (.fieldLink RX2 9 "GossamerGate$Day" "people" "I") (List.mem_cons_of_mem _ (List.mem_append_left _ (List.mem_of_getElem? (i := 0) rfl)))) (fun _ h9 => h9) rfl dX2_bitsIn_6 ?_
      refine lv_icmp_ge (tgt := 34) hx hb dX2_bitsIn_9 (by decide) (fun c_9 => ?_) (fun c_9 => ?_)
      · refine lv_iload_n hx hb dX2_bitsIn_34 rfl (lv_at hl 2 rfl) ?_
        exact W.iret (v := g4_0) hx hb hr (fun t ht hW => ⟨g4_0, rfl, trivial, ht⟩) (fun _ h9 => absurd h9 List.not_mem_nil) dX2_bitsIn_35
      · have h9_g4_1 : gIv 0 5 g4_1 := gIv_lt_l b4_0 h_d_pe (gz_nle c_9) (by decide)
        have h9_d_pe : gIv 1 6 d_pe := gIv_lt_r b4_0 h_d_pe (gz_nle c_9) (by decide)
        refine lv_aload_n hx hb dX2_bitsIn_12 rfl (lv_at hl 0 rfl) ?_
        refine va_get (D := G) (ci := 2) (v := .ref d_pl) (C := RX2) (T := TX2) (N := 7) hx hb hts j_s_X2_bitsIn_2 hown hE.K hP 0 rfl rfl 5 (by decide) (hts (.fieldLink RX2 29 "GossamerGate$Day" "place" "[I") (List.mem_cons_of_mem _ (List.mem_append_left _ (List.mem_of_getElem? (i := 1) rfl)))) (fun _ h9 => h9) rfl dX2_bitsIn_13 ?_
        refine lv_iload_n hx hb dX2_bitsIn_16 rfl (lv_at hl 3 rfl) ?_
        refine va_iald hx hb hE.K hP 1 0 rfl rfl (gIv_in (gIv_w h9_g4_1 (by decide) (by decide) : gIv 0 5 g4_1) (by decide)) dX2_bitsIn_17 ?_
        refine lv_topi (fun x_17 ex_17 => ?_)
        refine lv_iload_n hx hb dX2_bitsIn_18 rfl (lv_at hl 1 rfl) ?_
        refine lv_icmp_ne (tgt := 28) hx hb dX2_bitsIn_19 (by decide) (fun c_19 => ?_) (fun c_19 => ?_)
        · exact hB_28 g4_0 ls h9_g4_1 h9_d_pe (lv_sub hl [0, 1, 2, 3] rfl)
        · refine lv_iload_n hx hb dX2_bitsIn_22 rfl (lv_at hl 2 rfl) ?_
          refine lv_iconst (v := 1) hx hb dX2_bitsIn_23 (by decide) ?_
          refine lv_iload_n hx hb dX2_bitsIn_24 rfl (lv_at hl 3 rfl) ?_
          refine lv_ishl hx hb dX2_bitsIn_25 ?_
          refine lv_topi (fun x_25 ex_25 => ?_)
          refine lv_ior hx hb dX2_bitsIn_26 ?_
          refine lv_topi (fun x_26 ex_26 => ?_)
          refine lv_istore_n (lv' := [(2, .int x_26), (0, .ref d), (1, .int a), (3, .int g4_1)]) hx hb dX2_bitsIn_27 rfl hl (by decide) rfl (fun ls hl => ?_)
          exact hB_28 x_26 ls h9_g4_1 h9_d_pe (lv_sub hl [1, 2, 0, 3] rfl)
  refine lv_iconst (v := 0) hx hb dX2_bitsIn_0 (by decide) ?_
  refine lv_istore_n (lv' := [(2, .int 0), (0, .ref d), (1, .int a)]) hx hb dX2_bitsIn_1 rfl hl (by decide) rfl (fun ls hl => ?_)
  refine lv_iconst (v := 0) hx hb dX2_bitsIn_2 (by decide) ?_
  refine lv_istore_n (lv' := [(3, .int 0), (2, .int 0), (0, .ref d), (1, .int a)]) hx hb dX2_bitsIn_3 rfl hl (by decide) rfl (fun ls hl => ?_)
  exact hL_4 _ 0 0 ls (gIv_of (a := 0) (b := 6) (x := 0) (by decide)) (Nat.lt_succ_self _) (lv_sub hl [2, 3, 1, 0] rfl)
set_option maxHeartbeats 4000000 in
set_option maxRecDepth 100000 in
theorem s_X2_sumOf_th (l : Launch) (G : va_G) (k : Nat → ClassId) (sa : Nat → Nat) (d : Nat) (d_pe : Int32) (d_ho : Int32) (d_ga : Int64) (d_ce : Nat) (d_th : Nat) (d_thF : Nat → Int32) (d_pl : Nat) (d_ta : Nat) (h_d_pe : gIv 0 6 d_pe) : Met l yX2_sumOf vs_s_X2_sumOf_th ({ frames := 0, cells := 0, slots := 0, locals := 0 } : Room) (gR G k sa [.ref d, .ref d_th] [(d, .inr (2, [.int d_pe, .int d_ho, .long d_ga, .ref d_ce, .ref d_th, .ref d_pl, .ref d_ta])), (d_th, .inl (k 0, 6, .inl d_thF))]) (vp_Si (fun r => True)) 0 0 (fun _ => False) := by
  refine gz_metR (cc := cX2_sumOf) (maxL := 4) (ret := (some .int)) (by decide) rfl (Nat.le_of_ble_eq_true rfl) ?_
  intro p_ e_ s_ m below_ meth_ c_ ls hx hb hr hml hts hown hlocks hP hE hZ hS hl
  have hl : lv_has ls 4 [(0, .ref d), (1, .ref d_th)] := hl
  have hB_30 : ∀ (g4_0 : Int32) (ls : Array Slot), lv_has ls 4 [(2, .int g4_0)] → W p_ l e_ (headSpec vs_s_X2_sumOf_th ({ frames := 0, cells := 0, slots := 0, locals := 0 } : Room)).room s_ m [.ref d, .ref d_th].toArray below_ meth_ c_ s_.heap [] 0 0 (MQ below_ (vp_Si (fun r => True)) [.ref d, .ref d_th].toArray s_ 0 0 (fun _ => False)) (F0 m 30 ls []) := by
    intro g4_0 ls  hl
    refine lv_iload_n hx hb dX2_sumOf_30 rfl (lv_at hl 0 rfl) ?_
    exact W.iret (v := g4_0) hx hb hr (fun t ht hW => ⟨g4_0, rfl, trivial, ht⟩) (fun _ h9 => absurd h9 List.not_mem_nil) dX2_sumOf_31
  have hL_4 : ∀ (n : Nat) (g4_0 : Int32) (g4_1 : Int32) (ls : Array Slot), gIv 0 6 g4_1 → (6 - g4_1.toInt).toNat < n → lv_has ls 4 [(0, .ref d), (1, .ref d_th), (2, .int g4_0), (3, .int g4_1)] → W p_ l e_ (headSpec vs_s_X2_sumOf_th ({ frames := 0, cells := 0, slots := 0, locals := 0 } : Room)).room s_ m [.ref d, .ref d_th].toArray below_ meth_ c_ s_.heap [] 0 0 (MQ below_ (vp_Si (fun r => True)) [.ref d, .ref d_th].toArray s_ 0 0 (fun _ => False)) (F0 m 4 ls []) := by
    intro n
    induction n with
    | zero => intro g4_0 g4_1 ls b4_0 hm_4 hl; exact absurd hm_4 (Nat.not_lt_zero _)
    | succ n ih_4 =>
      intro g4_0 g4_1 ls b4_0 hm_4 hl
      refine lv_iload_n hx hb dX2_sumOf_4 rfl (lv_at hl 3 rfl) ?_
      refine lv_aload_n hx hb dX2_sumOf_5 rfl (lv_at hl 0 rfl) ?_
      refine va_get (D := G) (ci := 2) (v := .int d_pe) (C := RX2) (T := TX2) (N := 7) hx hb hts j_s_X2_sumOf_th_2 hown hE.K hP 0 rfl rfl 0 (by decide) (hts (.fieldLink RX2 9 "GossamerGate$Day" "people" "I") (List.mem_cons_of_mem _ (List.mem_append_left _ (List.mem_of_getElem? (i := 0) rfl)))) (fun _ h9 => h9) rfl dX2_sumOf_6 ?_
      refine lv_icmp_ge (tgt := 30) hx hb dX2_sumOf_9 (by decide) (fun c_9 => ?_) (fun c_9 => ?_)
      · exact hB_30 g4_0 ls  (lv_sub hl [2] rfl)
      · have h9_g4_1 : gIv 0 5 g4_1 := gIv_lt_l b4_0 h_d_pe (gz_nle c_9) (by decide)
        have h9_d_pe : gIv 1 6 d_pe := gIv_lt_r b4_0 h_d_pe (gz_nle c_9) (by decide)
        refine lv_iload_n hx hb dX2_sumOf_12 rfl (lv_at hl 3 rfl) ?_
        refine lv_aload_n hx hb dX2_sumOf_13 rfl (lv_at hl 1 rfl) ?_
        refine va_alen (v := 6) hx hb hE.K hP 1 0 rfl rfl rfl dX2_sumOf_14 ?_
        refine lv_icmp_ge (tgt := 30) hx hb dX2_sumOf_15 (by decide) (fun c_15 => ?_) (fun c_15 => ?_)
        · exact absurd c_15 (gIv_nle (gIv_of (a := 6) (b := 6) (x := 6) (by decide)) h9_g4_1 (by decide))
        · refine lv_iload_n hx hb dX2_sumOf_18 rfl (lv_at hl 2 rfl) ?_
          refine lv_aload_n hx hb dX2_sumOf_19 rfl (lv_at hl 1 rfl) ?_
          refine lv_iload_n hx hb dX2_sumOf_20 rfl (lv_at hl 3 rfl) ?_
          refine va_iald hx hb hE.K hP 1 0 rfl rfl (gIv_in (gIv_w h9_g4_1 (by decide) (by decide) : gIv 0 5 g4_1) (by decide)) dX2_sumOf_21 ?_
          refine lv_topi (fun x_21 ex_21 => ?_)
          refine lv_iadd hx hb dX2_sumOf_22 ?_
          refine lv_topi (fun x_22 ex_22 => ?_)
          refine lv_istore_n (lv' := [(2, .int x_22), (0, .ref d), (1, .ref d_th), (3, .int g4_1)]) hx hb dX2_sumOf_23 rfl hl (by decide) rfl (fun ls hl => ?_)
          obtain ⟨x_24, ex_24⟩ : ∃ y : Int32, y = g4_1 + 1 := ⟨_, rfl⟩
          refine lv_iinc (v := x_24) (lv' := [(3, .int x_24), (2, .int x_22), (0, .ref d), (1, .ref d_th)]) hx hb dX2_sumOf_24 hl (k := 3) rfl (by rw [ex_24]; rfl) (by decide) rfl (fun ls hl => ?_)
          have hx_24 : gIv 1 6 x_24 := gIv_eq (gIv_add h9_g4_1 (gIv_of (a := 1) (b := 1) (by decide)) (by decide) (by decide)) ex_24
          have ix_24 : x_24.toInt = g4_1.toInt + 1 := gI_add ex_24 h9_g4_1 (by decide) (by decide)
          refine lv_goto (tgt := 4) hx hb dX2_sumOf_27 (by decide) ?_
          exact ih_4 x_22 x_24 ls (gIv_w (a' := 0) (b' := 6) hx_24 (by decide) (by decide)) (gM_up ix_24 ((gIv_w (a' := 0) (b' := 6) hx_24 (by decide) (by decide))).2 hm_4 (by decide)) (lv_sub hl [2, 3, 1, 0] rfl)
  refine lv_iconst (v := 0) hx hb dX2_sumOf_0 (by decide) ?_
  refine lv_istore_n (lv' := [(2, .int 0), (0, .ref d), (1, .ref d_th)]) hx hb dX2_sumOf_1 rfl hl (by decide) rfl (fun ls hl => ?_)
  refine lv_iconst (v := 0) hx hb dX2_sumOf_2 (by decide) ?_
  refine lv_istore_n (lv' := [(3, .int 0), (2, .int 0), (0, .ref d), (1, .ref d_th)]) hx hb dX2_sumOf_3 rfl hl (by decide) rfl (fun ls hl => ?_)
  exact hL_4 _ 0 0 ls (gIv_of (a := 0) (b := 6) (x := 0) (by decide)) (Nat.lt_succ_self _) (lv_sub hl [2, 3, 1, 0] rfl)
set_option maxHeartbeats 4000000 in
set_option maxRecDepth 100000 in
theorem s_X2_sumOf_ta (l : Launch) (G : va_G) (k : Nat → ClassId) (sa : Nat → Nat) (d : Nat) (d_pe : Int32) (d_ho : Int32) (d_ga : Int64) (d_ce : Nat) (d_th : Nat) (d_pl : Nat) (d_ta : Nat) (d_taF : Nat → Int32) (h_d_pe : gIv 0 6 d_pe) : Met l yX2_sumOf vs_s_X2_sumOf_ta ({ frames := 0, cells := 0, slots := 0, locals := 0 } : Room) (gR G k sa [.ref d, .ref d_ta] [(d, .inr (2, [.int d_pe, .int d_ho, .long d_ga, .ref d_ce, .ref d_th, .ref d_pl, .ref d_ta])), (d_ta, .inl (k 0, 6, .inl d_taF))]) (vp_Si (fun r => True)) 0 0 (fun _ => False) := by
  refine gz_metR (cc := cX2_sumOf) (maxL := 4) (ret := (some .int)) (by decide) rfl (Nat.le_of_ble_eq_true rfl) ?_
  intro p_ e_ s_ m below_ meth_ c_ ls hx hb hr hml hts hown hlocks hP hE hZ hS hl
  have hl : lv_has ls 4 [(0, .ref d), (1, .ref d_ta)] := hl
  have hB_30 : ∀ (g4_0 : Int32) (ls : Array Slot), lv_has ls 4 [(2, .int g4_0)] → W p_ l e_ (headSpec vs_s_X2_sumOf_ta ({ frames := 0, cells := 0, slots := 0, locals := 0 } : Room)).room s_ m [.ref d, .ref d_ta].toArray below_ meth_ c_ s_.heap [] 0 0 (MQ below_ (vp_Si (fun r => True)) [.ref d, .ref d_ta].toArray s_ 0 0 (fun _ => False)) (F0 m 30 ls []) := by
    intro g4_0 ls  hl
    refine lv_iload_n hx hb dX2_sumOf_30 rfl (lv_at hl 0 rfl) ?_
    exact W.iret (v := g4_0) hx hb hr (fun t ht hW => ⟨g4_0, rfl, trivial, ht⟩) (fun _ h9 => absurd h9 List.not_mem_nil) dX2_sumOf_31
  have hL_4 : ∀ (n : Nat) (g4_0 : Int32) (g4_1 : Int32) (ls : Array Slot), gIv 0 6 g4_1 → (6 - g4_1.toInt).toNat < n → lv_has ls 4 [(0, .ref d), (1, .ref d_ta), (2, .int g4_0), (3, .int g4_1)] → W p_ l e_ (headSpec vs_s_X2_sumOf_ta ({ frames := 0, cells := 0, slots := 0, locals := 0 } : Room)).room s_ m [.ref d, .ref d_ta].toArray below_ meth_ c_ s_.heap [] 0 0 (MQ below_ (vp_Si (fun r => True)) [.ref d, .ref d_ta].toArray s_ 0 0 (fun _ => False)) (F0 m 4 ls []) := by
    intro n
    induction n with
    | zero => intro g4_0 g4_1 ls b4_0 hm_4 hl; exact absurd hm_4 (Nat.not_lt_zero _)
    | succ n ih_4 =>
      intro g4_0 g4_1 ls b4_0 hm_4 hl
      refine lv_iload_n hx hb dX2_sumOf_4 rfl (lv_at hl 3 rfl) ?_
      refine lv_aload_n hx hb dX2_sumOf_5 rfl (lv_at hl 0 rfl) ?_
      refine va_get (D := G) (ci := 2) (v := .int d_pe) (C := RX2) (T := TX2) (N := 7) hx hb hts j_s_X2_sumOf_ta_2 hown hE.K hP 0 rfl rfl 0 (by decide) (hts (.fieldLink RX2 9 "GossamerGate$Day" "people" "I") (List.mem_cons_of_mem _ (List.mem_append_left _ (List.mem_of_getElem? (i := 0) rfl)))) (fun _ h9 => h9) rfl dX2_sumOf_6 ?_
      refine lv_icmp_ge (tgt := 30) hx hb dX2_sumOf_9 (by decide) (fun c_9 => ?_) (fun c_9 => ?_)
      · exact hB_30 g4_0 ls  (lv_sub hl [2] rfl)
      · have h9_g4_1 : gIv 0 5 g4_1 := gIv_lt_l b4_0 h_d_pe (gz_nle c_9) (by decide)
        have h9_d_pe : gIv 1 6 d_pe := gIv_lt_r b4_0 h_d_pe (gz_nle c_9) (by decide)
        refine lv_iload_n hx hb dX2_sumOf_12 rfl (lv_at hl 3 rfl) ?_
        refine lv_aload_n hx hb dX2_sumOf_13 rfl (lv_at hl 1 rfl) ?_
        refine va_alen (v := 6) hx hb hE.K hP 1 0 rfl rfl rfl dX2_sumOf_14 ?_
        refine lv_icmp_ge (tgt := 30) hx hb dX2_sumOf_15 (by decide) (fun c_15 => ?_) (fun c_15 => ?_)
        · exact absurd c_15 (gIv_nle (gIv_of (a := 6) (b := 6) (x := 6) (by decide)) h9_g4_1 (by decide))
        · refine lv_iload_n hx hb dX2_sumOf_18 rfl (lv_at hl 2 rfl) ?_
          refine lv_aload_n hx hb dX2_sumOf_19 rfl (lv_at hl 1 rfl) ?_
          refine lv_iload_n hx hb dX2_sumOf_20 rfl (lv_at hl 3 rfl) ?_
          refine va_iald hx hb hE.K hP 1 0 rfl rfl (gIv_in (gIv_w h9_g4_1 (by decide) (by decide) : gIv 0 5 g4_1) (by decide)) dX2_sumOf_21 ?_
          refine lv_topi (fun x_21 ex_21 => ?_)
          refine lv_iadd hx hb dX2_sumOf_22 ?_
          refine lv_topi (fun x_22 ex_22 => ?_)
          refine lv_istore_n (lv' := [(2, .int x_22), (0, .ref d), (1, .ref d_ta), (3, .int g4_1)]) hx hb dX2_sumOf_23 rfl hl (by decide) rfl (fun ls hl => ?_)
          obtain ⟨x_24, ex_24⟩ : ∃ y : Int32, y = g4_1 + 1 := ⟨_, rfl⟩
          refine lv_iinc (v := x_24) (lv' := [(3, .int x_24), (2, .int x_22), (0, .ref d), (1, .ref d_ta)]) hx hb dX2_sumOf_24 hl (k := 3) rfl (by rw [ex_24]; rfl) (by decide) rfl (fun ls hl => ?_)
          have hx_24 : gIv 1 6 x_24 := gIv_eq (gIv_add h9_g4_1 (gIv_of (a := 1) (b := 1) (by decide)) (by decide) (by decide)) ex_24
          have ix_24 : x_24.toInt = g4_1.toInt + 1 := gI_add ex_24 h9_g4_1 (by decide) (by decide)
          refine lv_goto (tgt := 4) hx hb dX2_sumOf_27 (by decide) ?_
          exact ih_4 x_22 x_24 ls (gIv_w (a' := 0) (b' := 6) hx_24 (by decide) (by decide)) (gM_up ix_24 ((gIv_w (a' := 0) (b' := 6) hx_24 (by decide) (by decide))).2 hm_4 (by decide)) (lv_sub hl [2, 3, 1, 0] rfl)
  refine lv_iconst (v := 0) hx hb dX2_sumOf_0 (by decide) ?_
  refine lv_istore_n (lv' := [(2, .int 0), (0, .ref d), (1, .ref d_ta)]) hx hb dX2_sumOf_1 rfl hl (by decide) rfl (fun ls hl => ?_)
  refine lv_iconst (v := 0) hx hb dX2_sumOf_2 (by decide) ?_
  refine lv_istore_n (lv' := [(3, .int 0), (2, .int 0), (0, .ref d), (1, .ref d_ta)]) hx hb dX2_sumOf_3 rfl hl (by decide) rfl (fun ls hl => ?_)
  exact hL_4 _ 0 0 ls (gIv_of (a := 0) (b := 6) (x := 0) (by decide)) (Nat.lt_succ_self _) (lv_sub hl [2, 3, 1, 0] rfl)
