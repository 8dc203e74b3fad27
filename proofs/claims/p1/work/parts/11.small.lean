set_option maxHeartbeats 4000000 in
set_option maxRecDepth 100000 in
theorem c_X10_outside (l : Launch) (G : va_G) (k : Nat → ClassId) (sa : Nat → Nat) (n : Int32) (lo : Int32) (hi : Int32) : Met l yX10_outside vs_c_X10_outside ({ frames := 0, cells := 0, slots := 0, locals := 0 } : Room) (gR G k sa [.int n, .int lo, .int hi] []) (vp_Si (fun r => (r = 1 ∧ (n < lo ∨ hi < n)) ∨ (r = 0 ∧ (¬ (n < lo ∨ hi < n))))) 0 0 (fun _ => False) := by
  refine gz_metR (cc := cX10_outside) (maxL := 3) (ret := (some .boolean)) (by decide) rfl (Nat.le_of_ble_eq_true rfl) ?_
  intro p_ e_ s_ m below_ meth_ c_ ls hx hb hr hml hts hown hlocks hP hE hl
  have hl : lv_has ls 3 [(0, .int n), (1, .int lo), (2, .int hi)] := hl
  refine lv_iload_n hx hb dX10_outside_0 rfl (lv_at hl 0 rfl) ?_
  refine lv_iload_n hx hb dX10_outside_1 rfl (lv_at hl 1 rfl) ?_
  refine lv_icmp_lt (tgt := 10) hx hb dX10_outside_2 (by decide) (fun c_1 => ?_) (fun c_1 => ?_)
  · refine lv_iconst (v := 1) hx hb dX10_outside_10 (by decide) ?_
    refine lv_goto (tgt := 15) hx hb dX10_outside_11 (by decide) ?_
    exact W.zret (v := 1) hx hb hr (by decide) (fun t ht hW => ⟨1, rfl, (Or.inl ⟨rfl, Or.inl c_1⟩), ht⟩) (fun _ h9 => absurd h9 List.not_mem_nil) dX10_outside_15
  · refine lv_iload_n hx hb dX10_outside_5 rfl (lv_at hl 0 rfl) ?_
    refine lv_iload_n hx hb dX10_outside_6 rfl (lv_at hl 2 rfl) ?_
    refine lv_icmp_le (tgt := 14) hx hb dX10_outside_7 (by decide) (fun c_2 => ?_) (fun c_2 => ?_)
    · refine lv_iconst (v := 0) hx hb dX10_outside_14 (by decide) ?_
      exact W.zret (v := 0) hx hb hr (by decide) (fun t ht hW => ⟨0, rfl, (Or.inr ⟨rfl, fun h => h.elim c_1 (fun h2 => absurd h2 (Int32.not_lt.mpr c_2))⟩), ht⟩) (fun _ h9 => absurd h9 List.not_mem_nil) dX10_outside_15
    · refine lv_iconst (v := 1) hx hb dX10_outside_10 (by decide) ?_
      refine lv_goto (tgt := 15) hx hb dX10_outside_11 (by decide) ?_
      exact W.zret (v := 1) hx hb hr (by decide) (fun t ht hW => ⟨1, rfl, (Or.inl ⟨rfl, Or.inr (Int32.not_le.mp c_2)⟩), ht⟩) (fun _ h9 => absurd h9 List.not_mem_nil) dX10_outside_15
set_option maxHeartbeats 4000000 in
set_option maxRecDepth 100000 in
theorem c_X10_isTold (l : Launch) (G : va_G) (k : Nat → ClassId) (sa : Nat → Nat) (h0 : Nat) (v : Nat → Nat) (w : Nat → Nat) : Met l yX10_isTold vs_c_X10_isTold ({ frames := 0, cells := 0, slots := 0, locals := 0 } : Room) (gR G k sa [.ref h0] [(h0, .inr (10, [.ref (v 0), .ref (v 1), .ref (v 2), .ref (v 3), .ref (v 4), .int 0, .ref (v 5), .ref (v 6), .ref (v 7), .ref (v 8), .ref (v 9), .ref (v 10), .ref (v 11), .ref (v 12), .ref (v 13), .int 0])), (v 5, .inr (9, [.ref (w 0), .ref (w 1), .ref (w 2), .ref (w 3), .ref (w 4), .int 0, .int 0, .int (-1), .int 0])), (w 0, .inr (0, [.int 0, .int 0, .ref (w 5), .ref (w 6), .ref (w 7), .ref (w 8)]))]) (vp_Si (fun r => r = 0)) 0 0 (fun _ => False) := by
  refine gz_metR (cc := cX10_isTold) (maxL := 1) (ret := (some .boolean)) (by decide) rfl (Nat.le_of_ble_eq_true rfl) ?_
  intro p_ e_ s_ m below_ meth_ c_ ls hx hb hr hml hts hown hlocks hP hE hl
  have hl : lv_has ls 1 [(0, .ref h0)] := hl
  refine lv_aload_n hx hb dX10_isTold_0 rfl (lv_at hl 0 rfl) ?_
  refine va_get (D := G) (ci := 10) (v := .ref (v 5)) (C := RX10) (T := TX10) (N := 16) hx hb hts j_c_X10_isTold_10 hown hE.K hP 0 rfl rfl 6 (by decide) (hts (.fieldLink RX10 52 "GossamerGate" "world" "LGossamerGate$World;") (List.mem_cons_of_mem _ (List.mem_append_left _ (List.mem_of_getElem? (i := 0) rfl)))) (fun _ h9 => h9) rfl dX10_isTold_1 ?_
  refine va_get (D := G) (ci := 9) (v := .ref (w 0)) (C := RX9) (T := TX9) (N := 9) hx hb hts j_c_X10_isTold_9 hown hE.K hP 1 rfl rfl 0 (by decide) (hts (.fieldLink RX10 69 "GossamerGate$World" "land" "LGossamerGate$Country;") (List.mem_cons_of_mem _ (List.mem_append_left _ (List.mem_of_getElem? (i := 1) rfl)))) (fun _ h9 => h9) rfl dX10_isTold_4 ?_
  refine va_get (D := G) (ci := 0) (v := .int 0) (C := RX0) (T := TX0) (N := 6) hx hb hts j_c_X10_isTold_0 hown hE.K hP 2 rfl rfl 0 (by decide) (hts (.fieldLink RX10 177 "GossamerGate$Country" "side" "I") (List.mem_cons_of_mem _ (List.mem_append_left _ (List.mem_of_getElem? (i := 2) rfl)))) (fun _ h9 => h9) rfl dX10_isTold_7 ?_
  refine lv_if_le (tgt := 17) hx hb dX10_isTold_10 (by decide) (fun _ => ?_) (fun h9 => absurd h9 (by decide))
  refine lv_iconst (v := 0) hx hb dX10_isTold_17 (by decide) ?_
  exact W.zret (v := 0) hx hb hr (by decide) (fun t ht hW => ⟨0, rfl, rfl, ht⟩) (fun _ h9 => absurd h9 List.not_mem_nil) dX10_isTold_18
set_option maxHeartbeats 4000000 in
set_option maxRecDepth 100000 in
theorem c_X0_cells (l : Launch) (G : va_G) (k : Nat → ClassId) (sa : Nat → Nat) (w : Nat → Nat) : Met l yX0_cells vs_c_X0_cells ({ frames := 0, cells := 0, slots := 0, locals := 0 } : Room) (gR G k sa [.ref (w 0)] [(w 0, .inr (0, [.int 0, .int 0, .ref (w 5), .ref (w 6), .ref (w 7), .ref (w 8)]))]) (vp_Si (fun r => r = 0)) 0 0 (fun _ => False) := by
  refine gz_metR (cc := cX0_cells) (maxL := 1) (ret := (some .int)) (by decide) rfl (Nat.le_of_ble_eq_true rfl) ?_
  intro p_ e_ s_ m below_ meth_ c_ ls hx hb hr hml hts hown hlocks hP hE hl
  have hl : lv_has ls 1 [(0, .ref (w 0))] := hl
  refine lv_aload_n hx hb dX0_cells_0 rfl (lv_at hl 0 rfl) ?_
  refine va_get (D := G) (ci := 0) (v := .int 0) (C := RX0) (T := TX0) (N := 6) hx hb hts j_c_X0_cells_0 hown hE.K hP 0 rfl rfl 0 (by decide) (hts (.fieldLink RX0 9 "GossamerGate$Country" "side" "I") (List.mem_cons_of_mem _ (List.mem_append_left _ (List.mem_of_getElem? (i := 0) rfl)))) (fun _ h9 => h9) rfl dX0_cells_1 ?_
  refine lv_aload_n hx hb dX0_cells_4 rfl (lv_at hl 0 rfl) ?_
  refine va_get (D := G) (ci := 0) (v := .int 0) (C := RX0) (T := TX0) (N := 6) hx hb hts j_c_X0_cells_0 hown hE.K hP 0 rfl rfl 0 (by decide) (hts (.fieldLink RX0 9 "GossamerGate$Country" "side" "I") (List.mem_cons_of_mem _ (List.mem_append_left _ (List.mem_of_getElem? (i := 0) rfl)))) (fun _ h9 => h9) rfl dX0_cells_5 ?_
  refine lv_imul hx hb dX0_cells_8 ?_
  refine gz_ni (v := 0) (by decide) ?_
  exact W.iret (v := 0) hx hb hr (fun t ht hW => ⟨0, rfl, rfl, ht⟩) (fun _ h9 => absurd h9 List.not_mem_nil) dX0_cells_9
set_option maxHeartbeats 4000000 in
set_option maxRecDepth 100000 in
theorem c_X10_isCell (l : Launch) (G : va_G) (k : Nat → ClassId) (sa : Nat → Nat) (h0 : Nat) (v : Nat → Nat) (w : Nat → Nat) (a : Int32) : Met l yX10_isCell vs_c_X10_isCell ({ frames := 1, cells := 0, slots := 0, locals := 22 } : Room) (gR G k sa [.ref h0, .int a] [(h0, .inr (10, [.ref (v 0), .ref (v 1), .ref (v 2), .ref (v 3), .ref (v 4), .int 0, .ref (v 5), .ref (v 6), .ref (v 7), .ref (v 8), .ref (v 9), .ref (v 10), .ref (v 11), .ref (v 12), .ref (v 13), .int 0])), (v 5, .inr (9, [.ref (w 0), .ref (w 1), .ref (w 2), .ref (w 3), .ref (w 4), .int 0, .int 0, .int (-1), .int 0])), (w 0, .inr (0, [.int 0, .int 0, .ref (w 5), .ref (w 6), .ref (w 7), .ref (w 8)]))]) (vp_Si (fun r => r = 0)) 0 0 (fun _ => False) := by
  refine gz_metR (cc := cX10_isCell) (maxL := 2) (ret := (some .boolean)) (by decide) rfl (Nat.le_of_ble_eq_true rfl) ?_
  intro p_ e_ s_ m below_ meth_ c_ ls hx hb hr hml hts hown hlocks hP hE hl
  have hl : lv_has ls 2 [(0, .ref h0), (1, .int a)] := hl
  refine lv_iload_n hx hb dX10_isCell_0 rfl (lv_at hl 1 rfl) ?_
  refine lv_iconst (v := 0) hx hb dX10_isCell_1 (by decide) ?_
  refine lv_aload_n hx hb dX10_isCell_2 rfl (lv_at hl 0 rfl) ?_
  refine va_get (D := G) (ci := 10) (v := .ref (v 5)) (C := RX10) (T := TX10) (N := 16) hx hb hts j_c_X10_isCell_10 hown hE.K hP 0 rfl rfl 6 (by decide) (hts (.fieldLink RX10 52 "GossamerGate" "world" "LGossamerGate$World;") (List.mem_cons_of_mem _ (List.mem_append_left _ (List.mem_of_getElem? (i := 0) rfl)))) (fun _ h9 => h9) rfl dX10_isCell_3 ?_
  refine va_get (D := G) (ci := 9) (v := .ref (w 0)) (C := RX9) (T := TX9) (N := 9) hx hb hts j_c_X10_isCell_9 hown hE.K hP 1 rfl rfl 0 (by decide) (hts (.fieldLink RX10 69 "GossamerGate$World" "land" "LGossamerGate$Country;") (List.mem_cons_of_mem _ (List.mem_append_left _ (List.mem_of_getElem? (i := 1) rfl)))) (fun _ h9 => h9) rfl dX10_isCell_6 ?_
  refine vp_callSi (W.runV (As := []) (rest := [.int 0, .int a]) ⟨hx, hb, hml, hown, hts⟩ (c_X0_cells l G k sa w) (cwV 0 hts g_c_X10_isCell_288_c_X0_cells rfl rfl rfl (by decide +kernel) ⟨(Nat.le_of_ble_eq_true rfl), (Nat.le_of_ble_eq_true rfl)⟩) ⟨gR.bl, va_recv hE.K hP (ci := 0) (q0 := 2) rfl rfl, (gR.pre (wc := [(w 0, .inr (0, [.int 0, .int 0, .ref (w 5), .ref (w 6), .ref (w 7), .ref (w 8)]))]) hE hP [2] rfl)⟩ rfl rfl hl.1 rfl (lv_room (Nat.le_of_ble_eq_true rfl)) dX10_isCell_9 ⟨(Nat.le_of_ble_eq_true rfl), (Nat.le_of_ble_eq_true rfl)⟩) (fun r_1 hr_1 => ?_)
  obtain rfl : r_1 = 0 := hr_1
  refine lv_iconst (v := 1) hx hb dX10_isCell_12 (by decide) ?_
  refine lv_isub hx hb dX10_isCell_13 ?_
  refine gz_ni (v := (-1)) (by decide) ?_
  refine vp_callSi (W.runS (As := [.int a, .int 0, .int (-1)]) (rest := []) ⟨hx, hb, hml, hown, hts⟩ (c_X10_outside l G k sa a 0 (-1)) (va_cwS 3 hts g_c_X10_isCell_110_c_X10_outside rfl rfl rfl (by decide +kernel) ⟨(Nat.le_of_ble_eq_true rfl), (Nat.le_of_ble_eq_true rfl)⟩) ⟨gR.bl, (gR.pre (wc := []) hE hP [] rfl)⟩ rfl rfl hl.1 rfl (lv_room (Nat.le_of_ble_eq_true rfl)) dX10_isCell_14 ⟨(Nat.le_of_ble_eq_true rfl), (Nat.le_of_ble_eq_true rfl)⟩) (fun r_2 hr_2 => ?_)
  obtain ⟨rfl, c_3⟩ := gz_o0 hr_2 (gz_out a)
  refine lv_if_ne (tgt := 24) hx hb dX10_isCell_17 (by decide) (fun _ => ?_) (fun h9 => absurd h9 (by decide))
  refine lv_iconst (v := 0) hx hb dX10_isCell_24 (by decide) ?_
  exact W.zret (v := 0) hx hb hr (by decide) (fun t ht hW => ⟨0, rfl, rfl, ht⟩) (fun _ h9 => absurd h9 List.not_mem_nil) dX10_isCell_25
set_option maxHeartbeats 4000000 in
set_option maxRecDepth 100000 in
theorem c_X10_isPerson (l : Launch) (G : va_G) (k : Nat → ClassId) (sa : Nat → Nat) (h0 : Nat) (v : Nat → Nat) (w : Nat → Nat) (a : Int32) : Met l yX10_isPerson vs_c_X10_isPerson ({ frames := 1, cells := 0, slots := 0, locals := 22 } : Room) (gR G k sa [.ref h0, .int a] [(h0, .inr (10, [.ref (v 0), .ref (v 1), .ref (v 2), .ref (v 3), .ref (v 4), .int 0, .ref (v 5), .ref (v 6), .ref (v 7), .ref (v 8), .ref (v 9), .ref (v 10), .ref (v 11), .ref (v 12), .ref (v 13), .int 0])), (v 5, .inr (9, [.ref (w 0), .ref (w 1), .ref (w 2), .ref (w 3), .ref (w 4), .int 0, .int 0, .int (-1), .int 0])), (w 1, .inr (2, [.int 0, .int 0, .long 0, .ref (w 13), .ref (w 14), .ref (w 15), .ref (w 16)]))]) (vp_Si (fun r => r = 0)) 0 0 (fun _ => False) := by
  refine gz_metR (cc := cX10_isPerson) (maxL := 2) (ret := (some .boolean)) (by decide) rfl (Nat.le_of_ble_eq_true rfl) ?_
  intro p_ e_ s_ m below_ meth_ c_ ls hx hb hr hml hts hown hlocks hP hE hl
  have hl : lv_has ls 2 [(0, .ref h0), (1, .int a)] := hl
  refine lv_iload_n hx hb dX10_isPerson_0 rfl (lv_at hl 1 rfl) ?_
  refine lv_iconst (v := 0) hx hb dX10_isPerson_1 (by decide) ?_
  refine lv_aload_n hx hb dX10_isPerson_2 rfl (lv_at hl 0 rfl) ?_
  refine va_get (D := G) (ci := 10) (v := .ref (v 5)) (C := RX10) (T := TX10) (N := 16) hx hb hts j_c_X10_isPerson_10 hown hE.K hP 0 rfl rfl 6 (by decide) (hts (.fieldLink RX10 52 "GossamerGate" "world" "LGossamerGate$World;") (List.mem_cons_of_mem _ (List.mem_append_left _ (List.mem_of_getElem? (i := 0) rfl)))) (fun _ h9 => h9) rfl dX10_isPerson_3 ?_
  refine va_get (D := G) (ci := 9) (v := .ref (w 1)) (C := RX9) (T := TX9) (N := 9) hx hb hts j_c_X10_isPerson_9 hown hE.K hP 1 rfl rfl 1 (by decide) (hts (.fieldLink RX10 124 "GossamerGate$World" "day" "LGossamerGate$Day;") (List.mem_cons_of_mem _ (List.mem_append_left _ (List.mem_of_getElem? (i := 1) rfl)))) (fun _ h9 => h9) rfl dX10_isPerson_6 ?_
  refine va_get (D := G) (ci := 2) (v := .int 0) (C := RX2) (T := TX2) (N := 7) hx hb hts j_c_X10_isPerson_2 hown hE.K hP 2 rfl rfl 0 (by decide) (hts (.fieldLink RX10 128 "GossamerGate$Day" "people" "I") (List.mem_cons_of_mem _ (List.mem_append_left _ (List.mem_of_getElem? (i := 2) rfl)))) (fun _ h9 => h9) rfl dX10_isPerson_9 ?_
  refine lv_iconst (v := 1) hx hb dX10_isPerson_12 (by decide) ?_
  refine lv_isub hx hb dX10_isPerson_13 ?_
  refine gz_ni (v := (-1)) (by decide) ?_
  refine vp_callSi (W.runS (As := [.int a, .int 0, .int (-1)]) (rest := []) ⟨hx, hb, hml, hown, hts⟩ (c_X10_outside l G k sa a 0 (-1)) (va_cwS 3 hts g_c_X10_isPerson_110_c_X10_outside rfl rfl rfl (by decide +kernel) ⟨(Nat.le_of_ble_eq_true rfl), (Nat.le_of_ble_eq_true rfl)⟩) ⟨gR.bl, (gR.pre (wc := []) hE hP [] rfl)⟩ rfl rfl hl.1 rfl (lv_room (Nat.le_of_ble_eq_true rfl)) dX10_isPerson_14 ⟨(Nat.le_of_ble_eq_true rfl), (Nat.le_of_ble_eq_true rfl)⟩) (fun r_1 hr_1 => ?_)
  obtain ⟨rfl, c_2⟩ := gz_o0 hr_1 (gz_out a)
  refine lv_if_ne (tgt := 24) hx hb dX10_isPerson_17 (by decide) (fun _ => ?_) (fun h9 => absurd h9 (by decide))
  refine lv_iconst (v := 0) hx hb dX10_isPerson_24 (by decide) ?_
  exact W.zret (v := 0) hx hb hr (by decide) (fun t ht hW => ⟨0, rfl, rfl, ht⟩) (fun _ h9 => absurd h9 List.not_mem_nil) dX10_isPerson_25
set_option maxHeartbeats 4000000 in
set_option maxRecDepth 100000 in
theorem c_X10_isOn (l : Launch) (G : va_G) (k : Nat → ClassId) (sa : Nat → Nat) (h0 : Nat) (v : Nat → Nat) (w : Nat → Nat) (a : Int32) (b : Int32) : Met l yX10_isOn vs_c_X10_isOn ({ frames := 2, cells := 0, slots := 0, locals := 43 } : Room) (gR G k sa [.ref h0, .int a, .int b] [(h0, .inr (10, [.ref (v 0), .ref (v 1), .ref (v 2), .ref (v 3), .ref (v 4), .int 0, .ref (v 5), .ref (v 6), .ref (v 7), .ref (v 8), .ref (v 9), .ref (v 10), .ref (v 11), .ref (v 12), .ref (v 13), .int 0])), (v 5, .inr (9, [.ref (w 0), .ref (w 1), .ref (w 2), .ref (w 3), .ref (w 4), .int 0, .int 0, .int (-1), .int 0])), (w 1, .inr (2, [.int 0, .int 0, .long 0, .ref (w 13), .ref (w 14), .ref (w 15), .ref (w 16)]))]) (vp_Si (fun r => r = 0)) 0 0 (fun _ => False) := by
  refine gz_metR (cc := cX10_isOn) (maxL := 3) (ret := (some .boolean)) (by decide) rfl (Nat.le_of_ble_eq_true rfl) ?_
  intro p_ e_ s_ m below_ meth_ c_ ls hx hb hr hml hts hown hlocks hP hE hl
  have hl : lv_has ls 3 [(0, .ref h0), (1, .int a), (2, .int b)] := hl
  refine lv_aload_n hx hb dX10_isOn_0 rfl (lv_at hl 0 rfl) ?_
  refine lv_iload_n hx hb dX10_isOn_1 rfl (lv_at hl 1 rfl) ?_
  refine vp_callSi (W.runV (As := [.int a]) (rest := []) ⟨hx, hb, hml, hown, hts⟩ (c_X10_isPerson l G k sa h0 v w a) (cwV 1 hts g_c_X10_isOn_139_c_X10_isPerson rfl rfl rfl (by decide +kernel) ⟨(Nat.le_of_ble_eq_true rfl), (Nat.le_of_ble_eq_true rfl)⟩) ⟨gR.bl, va_recv hE.K hP (ci := 10) (q0 := 0) rfl rfl, (gR.pre (wc := [(h0, .inr (10, [.ref (v 0), .ref (v 1), .ref (v 2), .ref (v 3), .ref (v 4), .int 0, .ref (v 5), .ref (v 6), .ref (v 7), .ref (v 8), .ref (v 9), .ref (v 10), .ref (v 11), .ref (v 12), .ref (v 13), .int 0])), (v 5, .inr (9, [.ref (w 0), .ref (w 1), .ref (w 2), .ref (w 3), .ref (w 4), .int 0, .int 0, .int (-1), .int 0])), (w 1, .inr (2, [.int 0, .int 0, .long 0, .ref (w 13), .ref (w 14), .ref (w 15), .ref (w 16)]))]) hE hP [0, 1, 2] rfl)⟩ rfl rfl hl.1 rfl (lv_room (Nat.le_of_ble_eq_true rfl)) dX10_isOn_2 ⟨(Nat.le_of_ble_eq_true rfl), (Nat.le_of_ble_eq_true rfl)⟩) (fun r_1 hr_1 => ?_)
  obtain rfl : r_1 = 0 := hr_1
  refine lv_if_eq (tgt := 28) hx hb dX10_isOn_5 (by decide) (fun _ => ?_) (fun h9 => absurd h9 (by decide))
  refine lv_iconst (v := 0) hx hb dX10_isOn_28 (by decide) ?_
  exact W.zret (v := 0) hx hb hr (by decide) (fun t ht hW => ⟨0, rfl, rfl, ht⟩) (fun _ h9 => absurd h9 List.not_mem_nil) dX10_isOn_29
set_option maxHeartbeats 4000000 in
set_option maxRecDepth 100000 in
theorem c_X10_isDry (l : Launch) (G : va_G) (k : Nat → ClassId) (sa : Nat → Nat) (h0 : Nat) (v : Nat → Nat) (w : Nat → Nat) (a : Int32) : Met l yX10_isDry vs_c_X10_isDry ({ frames := 2, cells := 0, slots := 0, locals := 43 } : Room) (gR G k sa [.ref h0, .int a] [(h0, .inr (10, [.ref (v 0), .ref (v 1), .ref (v 2), .ref (v 3), .ref (v 4), .int 0, .ref (v 5), .ref (v 6), .ref (v 7), .ref (v 8), .ref (v 9), .ref (v 10), .ref (v 11), .ref (v 12), .ref (v 13), .int 0])), (v 5, .inr (9, [.ref (w 0), .ref (w 1), .ref (w 2), .ref (w 3), .ref (w 4), .int 0, .int 0, .int (-1), .int 0])), (w 1, .inr (2, [.int 0, .int 0, .long 0, .ref (w 13), .ref (w 14), .ref (w 15), .ref (w 16)]))]) (vp_Si (fun r => r = 0)) 0 0 (fun _ => False) := by
  refine gz_metR (cc := cX10_isDry) (maxL := 2) (ret := (some .boolean)) (by decide) rfl (Nat.le_of_ble_eq_true rfl) ?_
  intro p_ e_ s_ m below_ meth_ c_ ls hx hb hr hml hts hown hlocks hP hE hl
  have hl : lv_has ls 2 [(0, .ref h0), (1, .int a)] := hl
  refine lv_aload_n hx hb dX10_isDry_0 rfl (lv_at hl 0 rfl) ?_
  refine lv_iload_n hx hb dX10_isDry_1 rfl (lv_at hl 1 rfl) ?_
  refine vp_callSi (W.runV (As := [.int a]) (rest := []) ⟨hx, hb, hml, hown, hts⟩ (c_X10_isPerson l G k sa h0 v w a) (cwV 1 hts g_c_X10_isDry_139_c_X10_isPerson rfl rfl rfl (by decide +kernel) ⟨(Nat.le_of_ble_eq_true rfl), (Nat.le_of_ble_eq_true rfl)⟩) ⟨gR.bl, va_recv hE.K hP (ci := 10) (q0 := 0) rfl rfl, (gR.pre (wc := [(h0, .inr (10, [.ref (v 0), .ref (v 1), .ref (v 2), .ref (v 3), .ref (v 4), .int 0, .ref (v 5), .ref (v 6), .ref (v 7), .ref (v 8), .ref (v 9), .ref (v 10), .ref (v 11), .ref (v 12), .ref (v 13), .int 0])), (v 5, .inr (9, [.ref (w 0), .ref (w 1), .ref (w 2), .ref (w 3), .ref (w 4), .int 0, .int 0, .int (-1), .int 0])), (w 1, .inr (2, [.int 0, .int 0, .long 0, .ref (w 13), .ref (w 14), .ref (w 15), .ref (w 16)]))]) hE hP [0, 1, 2] rfl)⟩ rfl rfl hl.1 rfl (lv_room (Nat.le_of_ble_eq_true rfl)) dX10_isDry_2 ⟨(Nat.le_of_ble_eq_true rfl), (Nat.le_of_ble_eq_true rfl)⟩) (fun r_1 hr_1 => ?_)
  obtain rfl : r_1 = 0 := hr_1
  refine lv_if_eq (tgt := 28) hx hb dX10_isDry_5 (by decide) (fun _ => ?_) (fun h9 => absurd h9 (by decide))
  refine lv_iconst (v := 0) hx hb dX10_isDry_28 (by decide) ?_
  exact W.zret (v := 0) hx hb hr (by decide) (fun t ht hW => ⟨0, rfl, rfl, ht⟩) (fun _ h9 => absurd h9 List.not_mem_nil) dX10_isDry_29
set_option maxHeartbeats 4000000 in
set_option maxRecDepth 100000 in
theorem c_X3_restoreLast (l : Launch) (G : va_G) (k : Nat → ClassId) (sa : Nat → Nat) (v : Nat → Nat) (d : Nat) : Met l yX3_restoreLast vs_c_X3_restoreLast ({ frames := 0, cells := 0, slots := 0, locals := 0 } : Room) (gR G k sa [.ref (v 7), .ref d] [(v 7, .inr (3, [.ref (v 18), .int 0, .int 0]))]) (vp_Si (fun r => r = 0)) 0 0 (fun _ => False) := by
  refine gz_metR (cc := cX3_restoreLast) (maxL := 2) (ret := (some .boolean)) (by decide) rfl (Nat.le_of_ble_eq_true rfl) ?_
  intro p_ e_ s_ m below_ meth_ c_ ls hx hb hr hml hts hown hlocks hP hE hl
  have hl : lv_has ls 2 [(0, .ref (v 7)), (1, .ref d)] := hl
  refine lv_aload_n hx hb dX3_restoreLast_0 rfl (lv_at hl 0 rfl) ?_
  refine va_get (D := G) (ci := 3) (v := .int 0) (C := RX3) (T := TX3) (N := 3) hx hb hts j_c_X3_restoreLast_3 hown hE.K hP 0 rfl rfl 2 (by decide) (hts (.fieldLink RX3 19 "GossamerGate$History" "size" "I") (List.mem_cons_of_mem _ (List.mem_append_left _ (List.mem_of_getElem? (i := 0) rfl)))) (fun _ h9 => h9) rfl dX3_restoreLast_1 ?_
  refine lv_if_gt (tgt := 9) hx hb dX3_restoreLast_4 (by decide) (fun h9 => absurd h9 (by decide)) (fun _ => ?_)
  refine lv_iconst (v := 0) hx hb dX3_restoreLast_7 (by decide) ?_
  exact W.zret (v := 0) hx hb hr (by decide) (fun t ht hW => ⟨0, rfl, rfl, ht⟩) (fun _ h9 => absurd h9 List.not_mem_nil) dX3_restoreLast_8
