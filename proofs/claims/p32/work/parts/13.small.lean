theorem ltw_69 : (.code yX10_outside cX10_outside 3 (some .boolean) : Cond) ∈ lw_tbl := (List.mem_append_right _ (List.mem_append_right _ (List.mem_append_left _ (List.mem_of_getElem? (l := tables_1_2) (i := 156) (by decide +kernel)))))
theorem ltw_70 : (.constant RJ6 265 (1431655765) : Cond) ∈ lw_tbl := (List.mem_append_right _ (List.mem_append_right _ (List.mem_append_right _ (List.mem_append_right _ (List.mem_append_left _ (List.mem_of_getElem? (l := tables_1_4) (i := 40) (by decide +kernel)))))))
theorem ltw_71 : (.constant RJ6 266 (858993459) : Cond) ∈ lw_tbl := (List.mem_append_right _ (List.mem_append_right _ (List.mem_append_right _ (List.mem_append_right _ (List.mem_append_left _ (List.mem_of_getElem? (l := tables_1_4) (i := 41) (by decide +kernel)))))))
theorem ltw_72 : (.constant RJ6 267 (252645135) : Cond) ∈ lw_tbl := (List.mem_append_right _ (List.mem_append_right _ (List.mem_append_right _ (List.mem_append_right _ (List.mem_append_left _ (List.mem_of_getElem? (l := tables_1_4) (i := 42) (by decide +kernel)))))))
theorem ltw_73 : (.code yJ6_bitCount_0f7a4 cJ6_bitCount_0f7a4 1 (some .int) : Cond) ∈ lw_tbl := (List.mem_append_right _ (List.mem_append_right _ (List.mem_append_right _ (List.mem_append_right _ (List.mem_append_left _ (List.mem_of_getElem? (l := tables_1_4) (i := 39) (by decide +kernel)))))))
theorem ltw_74 : (.constantLong RJ13 314 (6148914691236517205) : Cond) ∈ lw_tbl := (List.mem_append_right _ (List.mem_append_right _ (List.mem_append_right _ (List.mem_append_left _ (List.mem_of_getElem? (l := tables_1_3) (i := 210) (by decide +kernel))))))
theorem ltw_75 : (.constantLong RJ13 316 (3689348814741910323) : Cond) ∈ lw_tbl := (List.mem_append_right _ (List.mem_append_right _ (List.mem_append_right _ (List.mem_append_left _ (List.mem_of_getElem? (l := tables_1_3) (i := 211) (by decide +kernel))))))
theorem ltw_76 : (.constantLong RJ13 318 (1085102592571150095) : Cond) ∈ lw_tbl := (List.mem_append_right _ (List.mem_append_right _ (List.mem_append_right _ (List.mem_append_left _ (List.mem_of_getElem? (l := tables_1_3) (i := 212) (by decide +kernel))))))
theorem ltw_77 : (.code yJ13_bitCount_95d88 cJ13_bitCount_95d88 2 (some .int) : Cond) ∈ lw_tbl := (List.mem_append_right _ (List.mem_append_right _ (List.mem_append_right _ (List.mem_append_left _ (List.mem_of_getElem? (l := tables_1_3) (i := 209) (by decide +kernel))))))
theorem ltw_78 : (.code yJ6_compare_7cf53 cJ6_compare_7cf53 2 (some .int) : Cond) ∈ lw_tbl := (List.mem_append_right _ (List.mem_append_right _ (List.mem_append_right _ (List.mem_append_right _ (List.mem_append_left _ (List.mem_of_getElem? (l := tables_1_4) (i := 183) (by decide +kernel)))))))
theorem ltw_79 : (.constantLong RX10 361 (1103515245) : Cond) ∈ lw_tbl := (List.mem_append_right _ (List.mem_append_right _ (List.mem_append_right _ (List.mem_append_right _ (List.mem_append_right _ (List.mem_append_left _ (List.mem_of_getElem? (l := tables_1_5) (i := 23) (by decide +kernel))))))))
theorem ltw_80 : (.constantLong RX10 363 (12345) : Cond) ∈ lw_tbl := (List.mem_append_right _ (List.mem_append_right _ (List.mem_append_right _ (List.mem_append_right _ (List.mem_append_right _ (List.mem_append_left _ (List.mem_of_getElem? (l := tables_1_5) (i := 24) (by decide +kernel))))))))
theorem ltw_81 : (.constantLong RX10 365 (2147483647) : Cond) ∈ lw_tbl := (List.mem_append_right _ (List.mem_append_right _ (List.mem_append_right _ (List.mem_append_right _ (List.mem_append_right _ (List.mem_append_left _ (List.mem_of_getElem? (l := tables_1_5) (i := 25) (by decide +kernel))))))))
theorem ltw_82 : (.code yX10_stirred cX10_stirred 1 (some .int) : Cond) ∈ lw_tbl := (List.mem_append_right _ (List.mem_append_right _ (List.mem_append_right _ (List.mem_append_right _ (List.mem_append_right _ (List.mem_append_left _ (List.mem_of_getElem? (l := tables_1_5) (i := 22) (by decide +kernel))))))))
theorem ltw_83 : (.constant RX10 367 (65536) : Cond) ∈ lw_tbl := (List.mem_append_right _ (List.mem_append_right _ (List.mem_append_right _ (List.mem_append_right _ (List.mem_append_right _ (List.mem_append_left _ (List.mem_of_getElem? (l := tables_1_5) (i := 29) (by decide +kernel))))))))
theorem ltw_84 : (.code yX10_drawOf cX10_drawOf 1 (some .int) : Cond) ∈ lw_tbl := (List.mem_append_right _ (List.mem_append_right _ (List.mem_append_right _ (List.mem_append_right _ (List.mem_append_right _ (List.mem_append_left _ (List.mem_of_getElem? (l := tables_1_5) (i := 28) (by decide +kernel))))))))
def vs_s_X10_outside : List Cond := .code yX10_outside cX10_outside 3 (some .boolean) :: ([] ++ [])
theorem gw_s_X10_outside : gGood vs_s_X10_outside := gGood_co (gGood_of (by decide +kernel)) gGood_nil
theorem il_s_X10_outside : ∀ w ∈ vs_s_X10_outside, w ∈ lw_tbl := List.forall_mem_cons.mpr ⟨ltw_69, List.forall_mem_append.mpr ⟨fun _ h => absurd h List.not_mem_nil, fun _ h => absurd h List.not_mem_nil⟩⟩
def vs_s_bitCountI : List Cond := .code yJ6_bitCount_0f7a4 cJ6_bitCount_0f7a4 1 (some .int) :: ([.constant RJ6 265 (1431655765), .constant RJ6 266 (858993459), .constant RJ6 267 (252645135)] ++ [])
theorem gw_s_bitCountI : gGood vs_s_bitCountI := gGood_co (gGood_of (by decide +kernel)) gGood_nil
theorem il_s_bitCountI : ∀ w ∈ vs_s_bitCountI, w ∈ lw_tbl := List.forall_mem_cons.mpr ⟨ltw_73, List.forall_mem_append.mpr ⟨List.forall_mem_cons.mpr ⟨ltw_70, List.forall_mem_cons.mpr ⟨ltw_71, List.forall_mem_cons.mpr ⟨ltw_72, fun _ h => absurd h List.not_mem_nil⟩⟩⟩, fun _ h => absurd h List.not_mem_nil⟩⟩
def vs_s_bitCountL : List Cond := .code yJ13_bitCount_95d88 cJ13_bitCount_95d88 2 (some .int) :: ([.constantLong RJ13 314 (6148914691236517205), .constantLong RJ13 316 (3689348814741910323), .constantLong RJ13 318 (1085102592571150095)] ++ [])
theorem gw_s_bitCountL : gGood vs_s_bitCountL := gGood_co (gGood_of (by decide +kernel)) gGood_nil
theorem il_s_bitCountL : ∀ w ∈ vs_s_bitCountL, w ∈ lw_tbl := List.forall_mem_cons.mpr ⟨ltw_77, List.forall_mem_append.mpr ⟨List.forall_mem_cons.mpr ⟨ltw_74, List.forall_mem_cons.mpr ⟨ltw_75, List.forall_mem_cons.mpr ⟨ltw_76, fun _ h => absurd h List.not_mem_nil⟩⟩⟩, fun _ h => absurd h List.not_mem_nil⟩⟩
def vs_s_compare : List Cond := .code yJ6_compare_7cf53 cJ6_compare_7cf53 2 (some .int) :: ([] ++ [])
theorem gw_s_compare : gGood vs_s_compare := gGood_co (gGood_of (by decide +kernel)) gGood_nil
theorem il_s_compare : ∀ w ∈ vs_s_compare, w ∈ lw_tbl := List.forall_mem_cons.mpr ⟨ltw_78, List.forall_mem_append.mpr ⟨fun _ h => absurd h List.not_mem_nil, fun _ h => absurd h List.not_mem_nil⟩⟩
def vs_s_X10_stirred : List Cond := .code yX10_stirred cX10_stirred 1 (some .int) :: ([.constantLong RX10 361 (1103515245), .constantLong RX10 363 (12345), .constantLong RX10 365 (2147483647)] ++ [])
theorem gw_s_X10_stirred : gGood vs_s_X10_stirred := gGood_co (gGood_of (by decide +kernel)) gGood_nil
theorem il_s_X10_stirred : ∀ w ∈ vs_s_X10_stirred, w ∈ lw_tbl := List.forall_mem_cons.mpr ⟨ltw_82, List.forall_mem_append.mpr ⟨List.forall_mem_cons.mpr ⟨ltw_79, List.forall_mem_cons.mpr ⟨ltw_80, List.forall_mem_cons.mpr ⟨ltw_81, fun _ h => absurd h List.not_mem_nil⟩⟩⟩, fun _ h => absurd h List.not_mem_nil⟩⟩
def vs_s_X10_drawOf : List Cond := .code yX10_drawOf cX10_drawOf 1 (some .int) :: ([.constant RX10 367 (65536)] ++ [])
theorem gw_s_X10_drawOf : gGood vs_s_X10_drawOf := gGood_co (gGood_of (by decide +kernel)) gGood_nil
theorem il_s_X10_drawOf : ∀ w ∈ vs_s_X10_drawOf, w ∈ lw_tbl := List.forall_mem_cons.mpr ⟨ltw_84, List.forall_mem_append.mpr ⟨List.forall_mem_cons.mpr ⟨ltw_83, fun _ h => absurd h List.not_mem_nil⟩, fun _ h => absurd h List.not_mem_nil⟩⟩
set_option maxHeartbeats 4000000 in
set_option maxRecDepth 100000 in
theorem s_X10_outside (l : Launch) (G : va_G) (k : Nat → ClassId) (sa : Nat → Nat) (n : Int32) (lo : Int32) (hi : Int32) : Met l yX10_outside vs_s_X10_outside ({ frames := 0, cells := 0, slots := 0, locals := 0 } : Room) (gR G k sa [.int n, .int lo, .int hi] []) (vp_Si (fun r => (r = 1 ∧ True) ∨ (r = 0 ∧ lo ≤ n ∧ n ≤ hi))) 0 0 (fun _ => False) := by
  refine gz_metR (cc := cX10_outside) (maxL := 3) (ret := (some .boolean)) (by decide) rfl (Nat.le_of_ble_eq_true rfl) ?_
  intro p_ e_ s_ m below_ meth_ c_ ls hx hb hr hml hts hown hlocks hP hE hZ hS hl
  have hl : lv_has ls 3 [(0, .int n), (1, .int lo), (2, .int hi)] := hl
  refine lv_iload_n hx hb dX10_outside_0 rfl (lv_at hl 0 rfl) ?_
  refine lv_iload_n hx hb dX10_outside_1 rfl (lv_at hl 1 rfl) ?_
  refine lv_icmp_lt (tgt := 10) hx hb dX10_outside_2 (by decide) (fun c_2 => ?_) (fun c_2 => ?_)
  · have h2_n : gIv (-2147483648) 2147483646 n := gIv_lt_l (gIv_any n) (gIv_any lo) c_2 (by decide)
    have h2_lo : gIv (-2147483647) 2147483647 lo := gIv_lt_r (gIv_any n) (gIv_any lo) c_2 (by decide)
    refine lv_iconst (v := 1) hx hb dX10_outside_10 (by decide) ?_
    refine lv_goto (tgt := 15) hx hb dX10_outside_11 (by decide) ?_
    exact W.zret (v := 1) hx hb hr (by decide) (fun t ht hW => ⟨1, rfl, (Or.inl ⟨rfl, trivial⟩), ht⟩) (fun _ h9 => absurd h9 List.not_mem_nil) dX10_outside_15
  · refine lv_iload_n hx hb dX10_outside_5 rfl (lv_at hl 0 rfl) ?_
    refine lv_iload_n hx hb dX10_outside_6 rfl (lv_at hl 2 rfl) ?_
    refine lv_icmp_le (tgt := 14) hx hb dX10_outside_7 (by decide) (fun c_7 => ?_) (fun c_7 => ?_)
    · refine lv_iconst (v := 0) hx hb dX10_outside_14 (by decide) ?_
      exact W.zret (v := 0) hx hb hr (by decide) (fun t ht hW => ⟨0, rfl, (Or.inr ⟨rfl, gz_nlt c_2, c_7⟩), ht⟩) (fun _ h9 => absurd h9 List.not_mem_nil) dX10_outside_15
    · have h7_hi : gIv (-2147483648) 2147483646 hi := gIv_lt_l (gIv_any hi) (gIv_any n) (gz_nle c_7) (by decide)
      have h7_n : gIv (-2147483647) 2147483647 n := gIv_lt_r (gIv_any hi) (gIv_any n) (gz_nle c_7) (by decide)
      refine lv_iconst (v := 1) hx hb dX10_outside_10 (by decide) ?_
      refine lv_goto (tgt := 15) hx hb dX10_outside_11 (by decide) ?_
      exact W.zret (v := 1) hx hb hr (by decide) (fun t ht hW => ⟨1, rfl, (Or.inl ⟨rfl, trivial⟩), ht⟩) (fun _ h9 => absurd h9 List.not_mem_nil) dX10_outside_15
set_option maxHeartbeats 4000000 in
set_option maxRecDepth 100000 in
theorem s_bitCountI (l : Launch) (G : va_G) (k : Nat → ClassId) (sa : Nat → Nat) (a : Int32) : Met l yJ6_bitCount_0f7a4 vs_s_bitCountI ({ frames := 0, cells := 0, slots := 0, locals := 0 } : Room) (gR G k sa [.int a] []) (vp_Si (fun r => gIv 0 63 r)) 0 0 (fun _ => False) := by
  refine gz_metR (cc := cJ6_bitCount_0f7a4) (maxL := 1) (ret := (some .int)) (by decide) rfl (Nat.le_of_ble_eq_true rfl) ?_
  intro p_ e_ s_ m below_ meth_ c_ ls hx hb hr hml hts hown hlocks hP hE hZ hS hl
  have hl : lv_has ls 1 [(0, .int a)] := hl
  refine lv_iload_n hx hb dJ6_bitCount_0f7a4_0 rfl (lv_at hl 0 rfl) ?_
  refine lv_iload_n hx hb dJ6_bitCount_0f7a4_1 rfl (lv_at hl 0 rfl) ?_
  refine lv_iconst (v := 1) hx hb dJ6_bitCount_0f7a4_2 (by decide) ?_
  obtain ⟨x_3, ex_3⟩ : ∃ y : Int32, y = (a.toUInt32 >>> ((1 : Int32).toUInt32 &&& Int32.toUInt32 31)).toInt32 := ⟨_, rfl⟩
  refine lv_iushr (v := x_3) hx hb dJ6_bitCount_0f7a4_3 ex_3.symm ?_
  refine lv_ldcw (v := 1431655765) hx hb hown (hts (.constant RJ6 265 (1431655765)) (List.mem_cons_of_mem _ (List.mem_append_left _ (List.mem_of_getElem? (i := 0) rfl)))) dJ6_bitCount_0f7a4_4 ?_
  refine lv_iand hx hb dJ6_bitCount_0f7a4_7 ?_
  refine lv_topi (fun x_7 ex_7 => ?_)
  refine lv_isub hx hb dJ6_bitCount_0f7a4_8 ?_
  refine lv_topi (fun x_8 ex_8 => ?_)
  refine lv_istore_n (lv' := [(0, .int x_8)]) hx hb dJ6_bitCount_0f7a4_9 rfl hl (by decide) rfl (fun ls hl => ?_)
  refine lv_iload_n hx hb dJ6_bitCount_0f7a4_10 rfl (lv_at hl 0 rfl) ?_
  refine lv_ldcw (v := 858993459) hx hb hown (hts (.constant RJ6 266 (858993459)) (List.mem_cons_of_mem _ (List.mem_append_left _ (List.mem_of_getElem? (i := 1) rfl)))) dJ6_bitCount_0f7a4_11 ?_
  refine lv_iand hx hb dJ6_bitCount_0f7a4_14 ?_
  refine lv_topi (fun x_14 ex_14 => ?_)
  refine lv_iload_n hx hb dJ6_bitCount_0f7a4_15 rfl (lv_at hl 0 rfl) ?_
  refine lv_iconst (v := 2) hx hb dJ6_bitCount_0f7a4_16 (by decide) ?_
  obtain ⟨x_17, ex_17⟩ : ∃ y : Int32, y = (x_8.toUInt32 >>> ((2 : Int32).toUInt32 &&& Int32.toUInt32 31)).toInt32 := ⟨_, rfl⟩
  refine lv_iushr (v := x_17) hx hb dJ6_bitCount_0f7a4_17 ex_17.symm ?_
  refine lv_ldcw (v := 858993459) hx hb hown (hts (.constant RJ6 266 (858993459)) (List.mem_cons_of_mem _ (List.mem_append_left _ (List.mem_of_getElem? (i := 1) rfl)))) dJ6_bitCount_0f7a4_18 ?_
  refine lv_iand hx hb dJ6_bitCount_0f7a4_21 ?_
  refine lv_topi (fun x_21 ex_21 => ?_)
  refine lv_iadd hx hb dJ6_bitCount_0f7a4_22 ?_
  refine lv_topi (fun x_22 ex_22 => ?_)
  refine lv_istore_n (lv' := [(0, .int x_22)]) hx hb dJ6_bitCount_0f7a4_23 rfl hl (by decide) rfl (fun ls hl => ?_)
  refine lv_iload_n hx hb dJ6_bitCount_0f7a4_24 rfl (lv_at hl 0 rfl) ?_
  refine lv_iload_n hx hb dJ6_bitCount_0f7a4_25 rfl (lv_at hl 0 rfl) ?_
  refine lv_iconst (v := 4) hx hb dJ6_bitCount_0f7a4_26 (by decide) ?_
  obtain ⟨x_27, ex_27⟩ : ∃ y : Int32, y = (x_22.toUInt32 >>> ((4 : Int32).toUInt32 &&& Int32.toUInt32 31)).toInt32 := ⟨_, rfl⟩
  refine lv_iushr (v := x_27) hx hb dJ6_bitCount_0f7a4_27 ex_27.symm ?_
  refine lv_iadd hx hb dJ6_bitCount_0f7a4_28 ?_
  refine lv_topi (fun x_28 ex_28 => ?_)
  refine lv_ldcw (v := 252645135) hx hb hown (hts (.constant RJ6 267 (252645135)) (List.mem_cons_of_mem _ (List.mem_append_left _ (List.mem_of_getElem? (i := 2) rfl)))) dJ6_bitCount_0f7a4_29 ?_
  refine lv_iand hx hb dJ6_bitCount_0f7a4_32 ?_
  refine lv_topi (fun x_32 ex_32 => ?_)
  refine lv_istore_n (lv' := [(0, .int x_32)]) hx hb dJ6_bitCount_0f7a4_33 rfl hl (by decide) rfl (fun ls hl => ?_)
  refine lv_iload_n hx hb dJ6_bitCount_0f7a4_34 rfl (lv_at hl 0 rfl) ?_
  refine lv_iload_n hx hb dJ6_bitCount_0f7a4_35 rfl (lv_at hl 0 rfl) ?_
  refine lv_bipush (v := 8) hx hb dJ6_bitCount_0f7a4_36 (by decide) ?_
  obtain ⟨x_38, ex_38⟩ : ∃ y : Int32, y = (x_32.toUInt32 >>> ((8 : Int32).toUInt32 &&& Int32.toUInt32 31)).toInt32 := ⟨_, rfl⟩
  refine lv_iushr (v := x_38) hx hb dJ6_bitCount_0f7a4_38 ex_38.symm ?_
  refine lv_iadd hx hb dJ6_bitCount_0f7a4_39 ?_
  refine lv_topi (fun x_39 ex_39 => ?_)
  refine lv_istore_n (lv' := [(0, .int x_39)]) hx hb dJ6_bitCount_0f7a4_40 rfl hl (by decide) rfl (fun ls hl => ?_)
  refine lv_iload_n hx hb dJ6_bitCount_0f7a4_41 rfl (lv_at hl 0 rfl) ?_
  refine lv_iload_n hx hb dJ6_bitCount_0f7a4_42 rfl (lv_at hl 0 rfl) ?_
  refine lv_bipush (v := 16) hx hb dJ6_bitCount_0f7a4_43 (by decide) ?_
  obtain ⟨x_45, ex_45⟩ : ∃ y : Int32, y = (x_39.toUInt32 >>> ((16 : Int32).toUInt32 &&& Int32.toUInt32 31)).toInt32 := ⟨_, rfl⟩
  refine lv_iushr (v := x_45) hx hb dJ6_bitCount_0f7a4_45 ex_45.symm ?_
  refine lv_iadd hx hb dJ6_bitCount_0f7a4_46 ?_
  refine lv_topi (fun x_46 ex_46 => ?_)
  refine lv_istore_n (lv' := [(0, .int x_46)]) hx hb dJ6_bitCount_0f7a4_47 rfl hl (by decide) rfl (fun ls hl => ?_)
  refine lv_iload_n hx hb dJ6_bitCount_0f7a4_48 rfl (lv_at hl 0 rfl) ?_
  refine lv_bipush (v := 63) hx hb dJ6_bitCount_0f7a4_49 (by decide) ?_
  refine lv_iand hx hb dJ6_bitCount_0f7a4_51 ?_
  refine lv_topi (fun x_51 ex_51 => ?_)
  have hx_51 : gIv 0 63 x_51 := gIv_eq (gIv_and _ 6 (by decide) (by decide) (by decide)) ex_51
  exact W.iret (v := x_51) hx hb hr (fun t ht hW => ⟨x_51, rfl, hx_51, ht⟩) (fun _ h9 => absurd h9 List.not_mem_nil) dJ6_bitCount_0f7a4_52
set_option maxHeartbeats 4000000 in
set_option maxRecDepth 100000 in
theorem s_bitCountL (l : Launch) (G : va_G) (k : Nat → ClassId) (sa : Nat → Nat) (a : Int64) : Met l yJ13_bitCount_95d88 vs_s_bitCountL ({ frames := 0, cells := 0, slots := 0, locals := 0 } : Room) (gR G k sa [.long a] []) (vp_Si (fun r => gIv 0 127 r)) 0 0 (fun _ => False) := by
  refine gz_metR (cc := cJ13_bitCount_95d88) (maxL := 2) (ret := (some .int)) (by decide) rfl (Nat.le_of_ble_eq_true rfl) ?_
  intro p_ e_ s_ m below_ meth_ c_ ls hx hb hr hml hts hown hlocks hP hE hZ hS hl
  have hl : lv_has ls 2 [(0, .long a)] := hl
  refine lv_lload_n hx hb dJ13_bitCount_95d88_0 rfl (lv_at hl 0 rfl) ?_
  refine lv_lload_n hx hb dJ13_bitCount_95d88_1 rfl (lv_at hl 0 rfl) ?_
  refine lv_iconst (v := 1) hx hb dJ13_bitCount_95d88_2 (by decide) ?_
  obtain ⟨x_3, ex_3⟩ : ∃ y : Int64, y = (a.toUInt64 >>> ((1 : Int32).toInt64.toUInt64 &&& Int64.toUInt64 63)).toInt64 := ⟨_, rfl⟩
  refine lv_lushr (v := x_3) hx hb dJ13_bitCount_95d88_3 ex_3.symm ?_
  refine lv_ldc2 (v := 6148914691236517205) hx hb hown (hts (.constantLong RJ13 314 (6148914691236517205)) (List.mem_cons_of_mem _ (List.mem_append_left _ (List.mem_of_getElem? (i := 0) rfl)))) dJ13_bitCount_95d88_4 ?_
  refine lv_land hx hb dJ13_bitCount_95d88_7 ?_
  refine lv_topl (fun x_7 ex_7 => ?_)
  refine lv_lsub hx hb dJ13_bitCount_95d88_8 ?_
  refine lv_topl (fun x_8 ex_8 => ?_)
  refine lv_lstore_n (lv' := [(0, .long x_8)]) hx hb dJ13_bitCount_95d88_9 rfl hl (by decide) rfl (fun ls hl => ?_)
  refine lv_lload_n hx hb dJ13_bitCount_95d88_10 rfl (lv_at hl 0 rfl) ?_
  refine lv_ldc2 (v := 3689348814741910323) hx hb hown (hts (.constantLong RJ13 316 (3689348814741910323)) (List.mem_cons_of_mem _ (List.mem_append_left _ (List.mem_of_getElem? (i := 1) rfl)))) dJ13_bitCount_95d88_11 ?_
  refine lv_land hx hb dJ13_bitCount_95d88_14 ?_
  refine lv_topl (fun x_14 ex_14 => ?_)
  refine lv_lload_n hx hb dJ13_bitCount_95d88_15 rfl (lv_at hl 0 rfl) ?_
  refine lv_iconst (v := 2) hx hb dJ13_bitCount_95d88_16 (by decide) ?_
  obtain ⟨x_17, ex_17⟩ : ∃ y : Int64, y = (x_8.toUInt64 >>> ((2 : Int32).toInt64.toUInt64 &&& Int64.toUInt64 63)).toInt64 := ⟨_, rfl⟩
  refine lv_lushr (v := x_17) hx hb dJ13_bitCount_95d88_17 ex_17.symm ?_
  refine lv_ldc2 (v := 3689348814741910323) hx hb hown (hts (.constantLong RJ13 316 (3689348814741910323)) (List.mem_cons_of_mem _ (List.mem_append_left _ (List.mem_of_getElem? (i := 1) rfl)))) dJ13_bitCount_95d88_18 ?_
  refine lv_land hx hb dJ13_bitCount_95d88_21 ?_
  refine lv_topl (fun x_21 ex_21 => ?_)
  refine lv_ladd hx hb dJ13_bitCount_95d88_22 ?_
  refine lv_topl (fun x_22 ex_22 => ?_)
  refine lv_lstore_n (lv' := [(0, .long x_22)]) hx hb dJ13_bitCount_95d88_23 rfl hl (by decide) rfl (fun ls hl => ?_)
  refine lv_lload_n hx hb dJ13_bitCount_95d88_24 rfl (lv_at hl 0 rfl) ?_
  refine lv_lload_n hx hb dJ13_bitCount_95d88_25 rfl (lv_at hl 0 rfl) ?_
  refine lv_iconst (v := 4) hx hb dJ13_bitCount_95d88_26 (by decide) ?_
  obtain ⟨x_27, ex_27⟩ : ∃ y : Int64, y = (x_22.toUInt64 >>> ((4 : Int32).toInt64.toUInt64 &&& Int64.toUInt64 63)).toInt64 := ⟨_, rfl⟩
  refine lv_lushr (v := x_27) hx hb dJ13_bitCount_95d88_27 ex_27.symm ?_
  refine lv_ladd hx hb dJ13_bitCount_95d88_28 ?_
  refine lv_topl (fun x_28 ex_28 => ?_)
  refine lv_ldc2 (v := 1085102592571150095) hx hb hown (hts (.constantLong RJ13 318 (1085102592571150095)) (List.mem_cons_of_mem _ (List.mem_append_left _ (List.mem_of_getElem? (i := 2) rfl)))) dJ13_bitCount_95d88_29 ?_
  refine lv_land hx hb dJ13_bitCount_95d88_32 ?_
  refine lv_topl (fun x_32 ex_32 => ?_)
  refine lv_lstore_n (lv' := [(0, .long x_32)]) hx hb dJ13_bitCount_95d88_33 rfl hl (by decide) rfl (fun ls hl => ?_)
  refine lv_lload_n hx hb dJ13_bitCount_95d88_34 rfl (lv_at hl 0 rfl) ?_
  refine lv_lload_n hx hb dJ13_bitCount_95d88_35 rfl (lv_at hl 0 rfl) ?_
  refine lv_bipush (v := 8) hx hb dJ13_bitCount_95d88_36 (by decide) ?_
  obtain ⟨x_38, ex_38⟩ : ∃ y : Int64, y = (x_32.toUInt64 >>> ((8 : Int32).toInt64.toUInt64 &&& Int64.toUInt64 63)).toInt64 := ⟨_, rfl⟩
  refine lv_lushr (v := x_38) hx hb dJ13_bitCount_95d88_38 ex_38.symm ?_
  refine lv_ladd hx hb dJ13_bitCount_95d88_39 ?_
  refine lv_topl (fun x_39 ex_39 => ?_)
  refine lv_lstore_n (lv' := [(0, .long x_39)]) hx hb dJ13_bitCount_95d88_40 rfl hl (by decide) rfl (fun ls hl => ?_)
  refine lv_lload_n hx hb dJ13_bitCount_95d88_41 rfl (lv_at hl 0 rfl) ?_
  refine lv_lload_n hx hb dJ13_bitCount_95d88_42 rfl (lv_at hl 0 rfl) ?_
  refine lv_bipush (v := 16) hx hb dJ13_bitCount_95d88_43 (by decide) ?_
  obtain ⟨x_45, ex_45⟩ : ∃ y : Int64, y = (x_39.toUInt64 >>> ((16 : Int32).toInt64.toUInt64 &&& Int64.toUInt64 63)).toInt64 := ⟨_, rfl⟩
  refine lv_lushr (v := x_45) hx hb dJ13_bitCount_95d88_45 ex_45.symm ?_
  refine lv_ladd hx hb dJ13_bitCount_95d88_46 ?_
  refine lv_topl (fun x_46 ex_46 => ?_)
  refine lv_lstore_n (lv' := [(0, .long x_46)]) hx hb dJ13_bitCount_95d88_47 rfl hl (by decide) rfl (fun ls hl => ?_)
  refine lv_lload_n hx hb dJ13_bitCount_95d88_48 rfl (lv_at hl 0 rfl) ?_
  refine lv_lload_n hx hb dJ13_bitCount_95d88_49 rfl (lv_at hl 0 rfl) ?_
  refine lv_bipush (v := 32) hx hb dJ13_bitCount_95d88_50 (by decide) ?_
  obtain ⟨x_52, ex_52⟩ : ∃ y : Int64, y = (x_46.toUInt64 >>> ((32 : Int32).toInt64.toUInt64 &&& Int64.toUInt64 63)).toInt64 := ⟨_, rfl⟩
  refine lv_lushr (v := x_52) hx hb dJ13_bitCount_95d88_52 ex_52.symm ?_
  refine lv_ladd hx hb dJ13_bitCount_95d88_53 ?_
  refine lv_topl (fun x_53 ex_53 => ?_)
  refine lv_lstore_n (lv' := [(0, .long x_53)]) hx hb dJ13_bitCount_95d88_54 rfl hl (by decide) rfl (fun ls hl => ?_)
  refine lv_lload_n hx hb dJ13_bitCount_95d88_55 rfl (lv_at hl 0 rfl) ?_
  obtain ⟨x_56, ex_56⟩ : ∃ y : Int32, y = x_53.toInt32 := ⟨_, rfl⟩
  refine lv_l2i (v := x_56) hx hb dJ13_bitCount_95d88_56 ex_56.symm ?_
  refine lv_bipush (v := 127) hx hb dJ13_bitCount_95d88_57 (by decide) ?_
  refine lv_iand hx hb dJ13_bitCount_95d88_59 ?_
  refine lv_topi (fun x_59 ex_59 => ?_)
  have hx_59 : gIv 0 127 x_59 := gIv_eq (gIv_and _ 7 (by decide) (by decide) (by decide)) ex_59
  exact W.iret (v := x_59) hx hb hr (fun t ht hW => ⟨x_59, rfl, hx_59, ht⟩) (fun _ h9 => absurd h9 List.not_mem_nil) dJ13_bitCount_95d88_60
set_option maxHeartbeats 4000000 in
set_option maxRecDepth 100000 in
theorem s_compare (l : Launch) (G : va_G) (k : Nat → ClassId) (sa : Nat → Nat) (a : Int32) (b : Int32) : Met l yJ6_compare_7cf53 vs_s_compare ({ frames := 0, cells := 0, slots := 0, locals := 0 } : Room) (gR G k sa [.int a, .int b] []) (vp_Si (fun r => gIv (-1) 1 r)) 0 0 (fun _ => False) := by
  refine gz_metR (cc := cJ6_compare_7cf53) (maxL := 2) (ret := (some .int)) (by decide) rfl (Nat.le_of_ble_eq_true rfl) ?_
  intro p_ e_ s_ m below_ meth_ c_ ls hx hb hr hml hts hown hlocks hP hE hZ hS hl
  have hl : lv_has ls 2 [(0, .int a), (1, .int b)] := hl
  have hB_19 : ∀ (g19_0 : Int32) (ls : Array Slot), gIv (-1) 1 g19_0 → lv_has ls 2 [] → W p_ l e_ (headSpec vs_s_compare ({ frames := 0, cells := 0, slots := 0, locals := 0 } : Room)).room s_ m [.int a, .int b].toArray below_ meth_ c_ s_.heap [] 0 0 (MQ below_ (vp_Si (fun r => gIv (-1) 1 r)) [.int a, .int b].toArray s_ 0 0 (fun _ => False)) (F0 m 19 ls [.int g19_0]) := by
    intro g19_0 ls b19_0 hl
    exact W.iret (v := g19_0) hx hb hr (fun t ht hW => ⟨g19_0, rfl, b19_0, ht⟩) (fun _ h9 => absurd h9 List.not_mem_nil) dJ6_compare_7cf53_19
  refine lv_iload_n hx hb dJ6_compare_7cf53_0 rfl (lv_at hl 0 rfl) ?_
  refine lv_iload_n hx hb dJ6_compare_7cf53_1 rfl (lv_at hl 1 rfl) ?_
  refine lv_icmp_ge (tgt := 9) hx hb dJ6_compare_7cf53_2 (by decide) (fun c_2 => ?_) (fun c_2 => ?_)
  · refine lv_iload_n hx hb dJ6_compare_7cf53_9 rfl (lv_at hl 0 rfl) ?_
    refine lv_iload_n hx hb dJ6_compare_7cf53_10 rfl (lv_at hl 1 rfl) ?_
    refine lv_icmp_ne (tgt := 18) hx hb dJ6_compare_7cf53_11 (by decide) (fun c_11 => ?_) (fun c_11 => ?_)
    · refine lv_iconst (v := 1) hx hb dJ6_compare_7cf53_18 (by decide) ?_
      exact hB_19 1 ls (gIv_of (a := (-1)) (b := 1) (x := 1) (by decide)) (lv_sub hl [] rfl)
    · refine lv_iconst (v := 0) hx hb dJ6_compare_7cf53_14 (by decide) ?_
      refine lv_goto (tgt := 19) hx hb dJ6_compare_7cf53_15 (by decide) ?_
      exact hB_19 0 ls (gIv_of (a := (-1)) (b := 1) (x := 0) (by decide)) (lv_sub hl [] rfl)
  · have h2_a : gIv (-2147483648) 2147483646 a := gIv_lt_l (gIv_any a) (gIv_any b) (gz_nle c_2) (by decide)
    have h2_b : gIv (-2147483647) 2147483647 b := gIv_lt_r (gIv_any a) (gIv_any b) (gz_nle c_2) (by decide)
    refine lv_iconst (v := (-1)) hx hb dJ6_compare_7cf53_5 (by decide) ?_
    refine lv_goto (tgt := 19) hx hb dJ6_compare_7cf53_6 (by decide) ?_
    exact hB_19 (-1) ls (gIv_of (a := (-1)) (b := 1) (x := (-1)) (by decide)) (lv_sub hl [] rfl)
set_option maxHeartbeats 4000000 in
set_option maxRecDepth 100000 in
theorem s_X10_stirred (l : Launch) (G : va_G) (k : Nat → ClassId) (sa : Nat → Nat) (a : Int32) : Met l yX10_stirred vs_s_X10_stirred ({ frames := 0, cells := 0, slots := 0, locals := 0 } : Room) (gR G k sa [.int a] []) (vp_Si (fun r => True)) 0 0 (fun _ => False) := by
  refine gz_metR (cc := cX10_stirred) (maxL := 1) (ret := (some .int)) (by decide) rfl (Nat.le_of_ble_eq_true rfl) ?_
  intro p_ e_ s_ m below_ meth_ c_ ls hx hb hr hml hts hown hlocks hP hE hZ hS hl
  have hl : lv_has ls 1 [(0, .int a)] := hl
  refine lv_iload_n hx hb dX10_stirred_0 rfl (lv_at hl 0 rfl) ?_
  refine lv_i2l (v := a.toInt64) hx hb dX10_stirred_1 rfl ?_
  refine lv_ldc2 (v := 1103515245) hx hb hown (hts (.constantLong RX10 361 (1103515245)) (List.mem_cons_of_mem _ (List.mem_append_left _ (List.mem_of_getElem? (i := 0) rfl)))) dX10_stirred_2 ?_
  refine lv_lmul hx hb dX10_stirred_5 ?_
  refine lv_topl (fun x_5 ex_5 => ?_)
  refine lv_ldc2 (v := 12345) hx hb hown (hts (.constantLong RX10 363 (12345)) (List.mem_cons_of_mem _ (List.mem_append_left _ (List.mem_of_getElem? (i := 1) rfl)))) dX10_stirred_6 ?_
  refine lv_ladd hx hb dX10_stirred_9 ?_
  refine lv_topl (fun x_9 ex_9 => ?_)
  refine lv_ldc2 (v := 2147483647) hx hb hown (hts (.constantLong RX10 365 (2147483647)) (List.mem_cons_of_mem _ (List.mem_append_left _ (List.mem_of_getElem? (i := 2) rfl)))) dX10_stirred_10 ?_
  refine lv_land hx hb dX10_stirred_13 ?_
  refine lv_topl (fun x_13 ex_13 => ?_)
  obtain ⟨x_14, ex_14⟩ : ∃ y : Int32, y = x_13.toInt32 := ⟨_, rfl⟩
  refine lv_l2i (v := x_14) hx hb dX10_stirred_14 ex_14.symm ?_
  exact W.iret (v := x_14) hx hb hr (fun t ht hW => ⟨x_14, rfl, trivial, ht⟩) (fun _ h9 => absurd h9 List.not_mem_nil) dX10_stirred_15
set_option maxHeartbeats 4000000 in
set_option maxRecDepth 100000 in
theorem s_X10_drawOf (l : Launch) (G : va_G) (k : Nat → ClassId) (sa : Nat → Nat) (a : Int32) : Met l yX10_drawOf vs_s_X10_drawOf ({ frames := 0, cells := 0, slots := 0, locals := 0 } : Room) (gR G k sa [.int a] []) (vp_Si (fun r => True)) 0 0 (fun _ => False) := by
  refine gz_metR (cc := cX10_drawOf) (maxL := 1) (ret := (some .int)) (by decide) rfl (Nat.le_of_ble_eq_true rfl) ?_
  intro p_ e_ s_ m below_ meth_ c_ ls hx hb hr hml hts hown hlocks hP hE hZ hS hl
  have hl : lv_has ls 1 [(0, .int a)] := hl
  refine lv_iload_n hx hb dX10_drawOf_0 rfl (lv_at hl 0 rfl) ?_
  refine lv_ldcw (v := 65536) hx hb hown (hts (.constant RX10 367 (65536)) (List.mem_cons_of_mem _ (List.mem_append_left _ (List.mem_of_getElem? (i := 0) rfl)))) dX10_drawOf_1 ?_
  refine lv_idiv hx hb dX10_drawOf_4 (gIv_nz (gIv_of (a := 65536) (b := 65536) (x := 65536) (by decide)) (by decide)) ?_
  refine lv_topi (fun x_4 ex_4 => ?_)
  exact W.iret (v := x_4) hx hb hr (fun t ht hW => ⟨x_4, rfl, trivial, ht⟩) (fun _ h9 => absurd h9 List.not_mem_nil) dX10_drawOf_5
