set_option maxHeartbeats 4000000 in
set_option maxRecDepth 100000 in
theorem m_in (l : Launch) (G : va_G) (k : Nat → ClassId) (sa : Nat → Nat) (a : Int64) (lo : Int64) (hi : Int64) : Met l yX11_in vs_m_in ({ frames := 0, cells := 0, slots := 0, locals := 0 } : Room) (gR G k sa [.long a, .long lo, .long hi] []) (vp_Si (fun r => (r = 1 ∧ (lo ≤ a ∧ a ≤ hi)) ∨ (r = 0 ∧ (¬ (lo ≤ a ∧ a ≤ hi))))) 0 0 (fun _ => False) := by
  refine gz_metR (cc := cX11_in) (maxL := 6) (ret := (some .boolean)) (by decide) rfl (Nat.le_of_ble_eq_true rfl) ?_
  intro p_ e_ s_ m below_ meth_ c_ ls hx hb hr hml hts hown hlocks hP hE hl
  have hl : lv_has ls 6 [(0, .long a), (2, .long lo), (4, .long hi)] := hl
  refine lv_lload_n hx hb dX11_in_0 rfl (lv_at hl 0 rfl) ?_
  refine lv_lload_n hx hb dX11_in_1 rfl (lv_at hl 1 rfl) ?_
  refine W.lcmp hx hb dX11_in_2 ?_
  refine lv_if_lt (tgt := 17) hx hb dX11_in_3 (by decide) (fun c_1 => ?_) (fun c_1 => ?_)
  · refine lv_iconst (v := 0) hx hb dX11_in_17 (by decide) ?_
    exact W.zret (v := 0) hx hb hr (by decide) (fun t ht hW => ⟨0, rfl, (Or.inr ⟨rfl, fun q => absurd ((lg_cmp_ge _ _).mpr q.1) (Int32.not_le.mpr c_1)⟩), ht⟩) (fun _ h9 => absurd h9 List.not_mem_nil) dX11_in_18
  · refine lv_lload_n hx hb dX11_in_6 rfl (lv_at hl 0 rfl) ?_
    refine lv_lload hx hb dX11_in_7 (lv_at hl 2 rfl) ?_
    refine W.lcmp hx hb dX11_in_9 ?_
    refine lv_if_gt (tgt := 17) hx hb dX11_in_10 (by decide) (fun c_2 => ?_) (fun c_2 => ?_)
    · refine lv_iconst (v := 0) hx hb dX11_in_17 (by decide) ?_
      exact W.zret (v := 0) hx hb hr (by decide) (fun t ht hW => ⟨0, rfl, (Or.inr ⟨rfl, fun q => absurd ((lg_cmp_le _ _).mpr q.2) (Int32.not_le.mpr c_2)⟩), ht⟩) (fun _ h9 => absurd h9 List.not_mem_nil) dX11_in_18
    · refine lv_iconst (v := 1) hx hb dX11_in_13 (by decide) ?_
      refine lv_goto (tgt := 18) hx hb dX11_in_14 (by decide) ?_
      exact W.zret (v := 1) hx hb hr (by decide) (fun t ht hW => ⟨1, rfl, (Or.inl ⟨rfl, (lg_cmp_ge _ _).mp (Int32.not_lt.mp c_1), (lg_cmp_le _ _).mp (Int32.not_lt.mp c_2)⟩), ht⟩) (fun _ h9 => absurd h9 List.not_mem_nil) dX11_in_18
set_option maxHeartbeats 4000000 in
set_option maxRecDepth 100000 in
theorem m_isCountry (l : Launch) (G : va_G) (k : Nat → ClassId) (sa : Nat → Nat) (h0 : Nat) (v : Nat → Nat) : Met l yX11_isCountry vs_m_isCountry ({ frames := 0, cells := 0, slots := 0, locals := 0 } : Room) (gR G k sa [.ref h0] [(h0, .inr (11, [.ref (v 0), .int 0, .int 0, .ref (v 3), .ref (v 4), .ref (v 5), .ref (v 6), .ref (v 7), .int 0, .int 0, .int 0, .int 0, .int 0, .int 0, .int 0, .ref (v 15), .int 0, .ref (v 17), .int 0, .ref (v 19), .ref (v 20), .int (-1), .int 0, .ref (v 23), .int (-1), .int (-1), .int (-1), .int 0, .int (-1), .int 0, .ref (v 30), .int 0, .ref (v 32), .int 0, .int 0, .ref (v 35), .ref (v 36), .ref (v 37), .ref (v 38), .long 0, .ref (v 40), .ref (v 41), .ref (v 42), .ref (v 43)])), (v 20, .inl (k 0, 206, .inl (fun _ => 0)))]) (vp_Si (fun r => r = 0)) 0 0 (fun _ => False) := by
  refine gz_metR (cc := cX11_isCountry) (maxL := 1) (ret := (some .boolean)) (by decide) rfl (Nat.le_of_ble_eq_true rfl) ?_
  intro p_ e_ s_ m below_ meth_ c_ ls hx hb hr hml hts hown hlocks hP hE hl
  have hl : lv_has ls 1 [(0, .ref h0)] := hl
  refine lv_aload_n hx hb dX11_isCountry_0 rfl (lv_at hl 0 rfl) ?_
  refine va_get (D := G) (ci := 11) (v := .ref (v 20)) (C := RX11) (T := TX11) (N := 44) hx hb hts j_m_isCountry_11 hown hE.K hP 0 rfl rfl 20 (by decide) (hts (.fieldLink RX11 39 "GossamerGateModel" "said" "[I") (List.mem_cons_of_mem _ (List.mem_append_left _ (List.mem_of_getElem? (i := 0) rfl)))) (fun _ h9 => h9) rfl dX11_isCountry_1 ?_
  refine lv_iconst (v := 0) hx hb dX11_isCountry_4 (by decide) ?_
  refine va_iald hx hb hE.K hP 1 0 rfl rfl (gz_in (by decide)) dX11_isCountry_5 ?_
  refine gz_ni (v := 0) rfl ?_
  refine lv_iconst (v := 1) hx hb dX11_isCountry_6 (by decide) ?_
  refine lv_icmp_ne (tgt := 14) hx hb dX11_isCountry_7 (by decide) (fun _ => ?_) (fun h9 => absurd h9 (by decide))
  refine lv_iconst (v := 0) hx hb dX11_isCountry_14 (by decide) ?_
  exact W.zret (v := 0) hx hb hr (by decide) (fun t ht hW => ⟨0, rfl, rfl, ht⟩) (fun _ h9 => absurd h9 List.not_mem_nil) dX11_isCountry_15
set_option maxHeartbeats 4000000 in
set_option maxRecDepth 100000 in
theorem m_cells (l : Launch) (G : va_G) (k : Nat → ClassId) (sa : Nat → Nat) (h0 : Nat) (v : Nat → Nat) : Met l yX11_cells vs_m_cells ({ frames := 0, cells := 0, slots := 0, locals := 0 } : Room) (gR G k sa [.ref h0] [(h0, .inr (11, [.ref (v 0), .int 0, .int 0, .ref (v 3), .ref (v 4), .ref (v 5), .ref (v 6), .ref (v 7), .int 0, .int 0, .int 0, .int 0, .int 0, .int 0, .int 0, .ref (v 15), .int 0, .ref (v 17), .int 0, .ref (v 19), .ref (v 20), .int (-1), .int 0, .ref (v 23), .int (-1), .int (-1), .int (-1), .int 0, .int (-1), .int 0, .ref (v 30), .int 0, .ref (v 32), .int 0, .int 0, .ref (v 35), .ref (v 36), .ref (v 37), .ref (v 38), .long 0, .ref (v 40), .ref (v 41), .ref (v 42), .ref (v 43)])), (v 20, .inl (k 0, 206, .inl (fun _ => 0)))]) (vp_Si (fun r => r = 0)) 0 0 (fun _ => False) := by
  refine gz_metR (cc := cX11_cells) (maxL := 1) (ret := (some .int)) (by decide) rfl (Nat.le_of_ble_eq_true rfl) ?_
  intro p_ e_ s_ m below_ meth_ c_ ls hx hb hr hml hts hown hlocks hP hE hl
  have hl : lv_has ls 1 [(0, .ref h0)] := hl
  refine lv_aload_n hx hb dX11_cells_0 rfl (lv_at hl 0 rfl) ?_
  refine va_get (D := G) (ci := 11) (v := .ref (v 20)) (C := RX11) (T := TX11) (N := 44) hx hb hts j_m_cells_11 hown hE.K hP 0 rfl rfl 20 (by decide) (hts (.fieldLink RX11 39 "GossamerGateModel" "said" "[I") (List.mem_cons_of_mem _ (List.mem_append_left _ (List.mem_of_getElem? (i := 0) rfl)))) (fun _ h9 => h9) rfl dX11_cells_1 ?_
  refine lv_iconst (v := 1) hx hb dX11_cells_4 (by decide) ?_
  refine va_iald hx hb hE.K hP 1 0 rfl rfl (gz_in (by decide)) dX11_cells_5 ?_
  refine gz_ni (v := 0) rfl ?_
  refine lv_aload_n hx hb dX11_cells_6 rfl (lv_at hl 0 rfl) ?_
  refine va_get (D := G) (ci := 11) (v := .ref (v 20)) (C := RX11) (T := TX11) (N := 44) hx hb hts j_m_cells_11 hown hE.K hP 0 rfl rfl 20 (by decide) (hts (.fieldLink RX11 39 "GossamerGateModel" "said" "[I") (List.mem_cons_of_mem _ (List.mem_append_left _ (List.mem_of_getElem? (i := 0) rfl)))) (fun _ h9 => h9) rfl dX11_cells_7 ?_
  refine lv_iconst (v := 1) hx hb dX11_cells_10 (by decide) ?_
  refine va_iald hx hb hE.K hP 1 0 rfl rfl (gz_in (by decide)) dX11_cells_11 ?_
  refine gz_ni (v := 0) rfl ?_
  refine lv_imul hx hb dX11_cells_12 ?_
  refine gz_ni (v := 0) (by decide) ?_
  exact W.iret (v := 0) hx hb hr (fun t ht hW => ⟨0, rfl, rfl, ht⟩) (fun _ h9 => absurd h9 List.not_mem_nil) dX11_cells_13
set_option maxHeartbeats 4000000 in
set_option maxRecDepth 100000 in
theorem m_rounds (l : Launch) (G : va_G) (k : Nat → ClassId) (sa : Nat → Nat) (h0 : Nat) (v : Nat → Nat) : Met l yX11_rounds vs_m_rounds ({ frames := 1, cells := 0, slots := 0, locals := 20 } : Room) (gR G k sa [.ref h0] [(h0, .inr (11, [.ref (v 0), .int 0, .int 0, .ref (v 3), .ref (v 4), .ref (v 5), .ref (v 6), .ref (v 7), .int 0, .int 0, .int 0, .int 0, .int 0, .int 0, .int 0, .ref (v 15), .int 0, .ref (v 17), .int 0, .ref (v 19), .ref (v 20), .int (-1), .int 0, .ref (v 23), .int (-1), .int (-1), .int (-1), .int 0, .int (-1), .int 0, .ref (v 30), .int 0, .ref (v 32), .int 0, .int 0, .ref (v 35), .ref (v 36), .ref (v 37), .ref (v 38), .long 0, .ref (v 40), .ref (v 41), .ref (v 42), .ref (v 43)])), (v 20, .inl (k 0, 206, .inl (fun _ => 0)))]) (vp_Si (fun r => r = 0)) 0 0 (fun _ => False) := by
  refine gz_metR (cc := cX11_rounds) (maxL := 1) (ret := (some .int)) (by decide) rfl (Nat.le_of_ble_eq_true rfl) ?_
  intro p_ e_ s_ m below_ meth_ c_ ls hx hb hr hml hts hown hlocks hP hE hl
  have hl : lv_has ls 1 [(0, .ref h0)] := hl
  refine lv_aload_n hx hb dX11_rounds_0 rfl (lv_at hl 0 rfl) ?_
  refine vp_callSi (W.runV (As := []) (rest := []) ⟨hx, hb, hml, hown, hts⟩ (m_isCountry l G k sa h0 v) (cwV 0 hts g_m_rounds_299_m_isCountry rfl rfl rfl (by decide +kernel) ⟨(Nat.le_of_ble_eq_true rfl), (Nat.le_of_ble_eq_true rfl)⟩) ⟨gR.bl, va_recv hE.K hP (ci := 11) (q0 := 0) rfl rfl, (gR.pre (wc := [(h0, .inr (11, [.ref (v 0), .int 0, .int 0, .ref (v 3), .ref (v 4), .ref (v 5), .ref (v 6), .ref (v 7), .int 0, .int 0, .int 0, .int 0, .int 0, .int 0, .int 0, .ref (v 15), .int 0, .ref (v 17), .int 0, .ref (v 19), .ref (v 20), .int (-1), .int 0, .ref (v 23), .int (-1), .int (-1), .int (-1), .int 0, .int (-1), .int 0, .ref (v 30), .int 0, .ref (v 32), .int 0, .int 0, .ref (v 35), .ref (v 36), .ref (v 37), .ref (v 38), .long 0, .ref (v 40), .ref (v 41), .ref (v 42), .ref (v 43)])), (v 20, .inl (k 0, 206, .inl (fun _ => 0)))]) hE hP [0, 1] rfl)⟩ rfl rfl hl.1 rfl (lv_room (Nat.le_of_ble_eq_true rfl)) dX11_rounds_1 ⟨(Nat.le_of_ble_eq_true rfl), (Nat.le_of_ble_eq_true rfl)⟩) (fun r_1 hr_1 => ?_)
  obtain rfl : r_1 = 0 := hr_1
  refine lv_if_ne (tgt := 11) hx hb dX11_rounds_4 (by decide) (fun h9 => absurd h9 (by decide)) (fun _ => ?_)
  refine lv_iconst (v := 0) hx hb dX11_rounds_7 (by decide) ?_
  refine lv_goto (tgt := 30) hx hb dX11_rounds_8 (by decide) ?_
  exact W.iret (v := 0) hx hb hr (fun t ht hW => ⟨0, rfl, rfl, ht⟩) (fun _ h9 => absurd h9 List.not_mem_nil) dX11_rounds_30
set_option maxHeartbeats 4000000 in
set_option maxRecDepth 100000 in
theorem m_isCell (l : Launch) (G : va_G) (k : Nat → ClassId) (sa : Nat → Nat) (h0 : Nat) (v : Nat → Nat) (a : Int32) : Met l yX11_isCell vs_m_isCell ({ frames := 1, cells := 0, slots := 0, locals := 20 } : Room) (gR G k sa [.ref h0, .int a] [(h0, .inr (11, [.ref (v 0), .int 0, .int 0, .ref (v 3), .ref (v 4), .ref (v 5), .ref (v 6), .ref (v 7), .int 0, .int 0, .int 0, .int 0, .int 0, .int 0, .int 0, .ref (v 15), .int 0, .ref (v 17), .int 0, .ref (v 19), .ref (v 20), .int (-1), .int 0, .ref (v 23), .int (-1), .int (-1), .int (-1), .int 0, .int (-1), .int 0, .ref (v 30), .int 0, .ref (v 32), .int 0, .int 0, .ref (v 35), .ref (v 36), .ref (v 37), .ref (v 38), .long 0, .ref (v 40), .ref (v 41), .ref (v 42), .ref (v 43)])), (v 20, .inl (k 0, 206, .inl (fun _ => 0)))]) (vp_Si (fun r => r = 0)) 0 0 (fun _ => False) := by
  refine gz_metR (cc := cX11_isCell) (maxL := 2) (ret := (some .boolean)) (by decide) rfl (Nat.le_of_ble_eq_true rfl) ?_
  intro p_ e_ s_ m below_ meth_ c_ ls hx hb hr hml hts hown hlocks hP hE hl
  have hl : lv_has ls 2 [(0, .ref h0), (1, .int a)] := hl
  refine lv_iload_n hx hb dX11_isCell_0 rfl (lv_at hl 1 rfl) ?_
  refine lv_if_lt (tgt := 16) hx hb dX11_isCell_1 (by decide) (fun c_1 => ?_) (fun c_1 => ?_)
  · refine lv_iconst (v := 0) hx hb dX11_isCell_16 (by decide) ?_
    exact W.zret (v := 0) hx hb hr (by decide) (fun t ht hW => ⟨0, rfl, rfl, ht⟩) (fun _ h9 => absurd h9 List.not_mem_nil) dX11_isCell_17
  · refine lv_iload_n hx hb dX11_isCell_4 rfl (lv_at hl 1 rfl) ?_
    refine lv_aload_n hx hb dX11_isCell_5 rfl (lv_at hl 0 rfl) ?_
    refine vp_callSi (W.runV (As := []) (rest := [.int a]) ⟨hx, hb, hml, hown, hts⟩ (m_cells l G k sa h0 v) (cwV 0 hts g_m_isCell_302_m_cells rfl rfl rfl (by decide +kernel) ⟨(Nat.le_of_ble_eq_true rfl), (Nat.le_of_ble_eq_true rfl)⟩) ⟨gR.bl, va_recv hE.K hP (ci := 11) (q0 := 0) rfl rfl, (gR.pre (wc := [(h0, .inr (11, [.ref (v 0), .int 0, .int 0, .ref (v 3), .ref (v 4), .ref (v 5), .ref (v 6), .ref (v 7), .int 0, .int 0, .int 0, .int 0, .int 0, .int 0, .int 0, .ref (v 15), .int 0, .ref (v 17), .int 0, .ref (v 19), .ref (v 20), .int (-1), .int 0, .ref (v 23), .int (-1), .int (-1), .int (-1), .int 0, .int (-1), .int 0, .ref (v 30), .int 0, .ref (v 32), .int 0, .int 0, .ref (v 35), .ref (v 36), .ref (v 37), .ref (v 38), .long 0, .ref (v 40), .ref (v 41), .ref (v 42), .ref (v 43)])), (v 20, .inl (k 0, 206, .inl (fun _ => 0)))]) hE hP [0, 1] rfl)⟩ rfl rfl hl.1 rfl (lv_room (Nat.le_of_ble_eq_true rfl)) dX11_isCell_6 ⟨(Nat.le_of_ble_eq_true rfl), (Nat.le_of_ble_eq_true rfl)⟩) (fun r_2 hr_2 => ?_)
    obtain rfl : r_2 = 0 := hr_2
    refine lv_icmp_ge (tgt := 16) hx hb dX11_isCell_9 (by decide) (fun c_3 => ?_) (fun c_3 => ?_)
    · refine lv_iconst (v := 0) hx hb dX11_isCell_16 (by decide) ?_
      exact W.zret (v := 0) hx hb hr (by decide) (fun t ht hW => ⟨0, rfl, rfl, ht⟩) (fun _ h9 => absurd h9 List.not_mem_nil) dX11_isCell_17
    · rw [gz_le] at c_3
      rw [gz_lt] at c_1
      have hz0 := gz_k_0
      omega
set_option maxHeartbeats 4000000 in
set_option maxRecDepth 100000 in
theorem m_isPerson (l : Launch) (G : va_G) (k : Nat → ClassId) (sa : Nat → Nat) (h0 : Nat) (v : Nat → Nat) (a : Int32) : Met l yX11_isPerson vs_m_isPerson ({ frames := 0, cells := 0, slots := 0, locals := 0 } : Room) (gR G k sa [.ref h0, .int a] [(h0, .inr (11, [.ref (v 0), .int 0, .int 0, .ref (v 3), .ref (v 4), .ref (v 5), .ref (v 6), .ref (v 7), .int 0, .int 0, .int 0, .int 0, .int 0, .int 0, .int 0, .ref (v 15), .int 0, .ref (v 17), .int 0, .ref (v 19), .ref (v 20), .int (-1), .int 0, .ref (v 23), .int (-1), .int (-1), .int (-1), .int 0, .int (-1), .int 0, .ref (v 30), .int 0, .ref (v 32), .int 0, .int 0, .ref (v 35), .ref (v 36), .ref (v 37), .ref (v 38), .long 0, .ref (v 40), .ref (v 41), .ref (v 42), .ref (v 43)])), (v 20, .inl (k 0, 206, .inl (fun _ => 0)))]) (vp_Si (fun r => r = 0)) 0 0 (fun _ => False) := by
  refine gz_metR (cc := cX11_isPerson) (maxL := 2) (ret := (some .boolean)) (by decide) rfl (Nat.le_of_ble_eq_true rfl) ?_
  intro p_ e_ s_ m below_ meth_ c_ ls hx hb hr hml hts hown hlocks hP hE hl
  have hl : lv_has ls 2 [(0, .ref h0), (1, .int a)] := hl
  refine lv_iload_n hx hb dX11_isPerson_0 rfl (lv_at hl 1 rfl) ?_
  refine lv_if_lt (tgt := 18) hx hb dX11_isPerson_1 (by decide) (fun c_1 => ?_) (fun c_1 => ?_)
  · refine lv_iconst (v := 0) hx hb dX11_isPerson_18 (by decide) ?_
    exact W.zret (v := 0) hx hb hr (by decide) (fun t ht hW => ⟨0, rfl, rfl, ht⟩) (fun _ h9 => absurd h9 List.not_mem_nil) dX11_isPerson_19
  · refine lv_iload_n hx hb dX11_isPerson_4 rfl (lv_at hl 1 rfl) ?_
    refine lv_aload_n hx hb dX11_isPerson_5 rfl (lv_at hl 0 rfl) ?_
    refine va_get (D := G) (ci := 11) (v := .ref (v 20)) (C := RX11) (T := TX11) (N := 44) hx hb hts j_m_isPerson_11 hown hE.K hP 0 rfl rfl 20 (by decide) (hts (.fieldLink RX11 39 "GossamerGateModel" "said" "[I") (List.mem_cons_of_mem _ (List.mem_append_left _ (List.mem_of_getElem? (i := 0) rfl)))) (fun _ h9 => h9) rfl dX11_isPerson_6 ?_
    refine lv_iconst (v := 3) hx hb dX11_isPerson_9 (by decide) ?_
    refine va_iald hx hb hE.K hP 1 0 rfl rfl (gz_in (by decide)) dX11_isPerson_10 ?_
    refine gz_ni (v := 0) rfl ?_
    refine lv_icmp_ge (tgt := 18) hx hb dX11_isPerson_11 (by decide) (fun c_2 => ?_) (fun c_2 => ?_)
    · refine lv_iconst (v := 0) hx hb dX11_isPerson_18 (by decide) ?_
      exact W.zret (v := 0) hx hb hr (by decide) (fun t ht hW => ⟨0, rfl, rfl, ht⟩) (fun _ h9 => absurd h9 List.not_mem_nil) dX11_isPerson_19
    · rw [gz_le] at c_2
      rw [gz_lt] at c_1
      have hz0 := gz_k_0
      omega
set_option maxHeartbeats 4000000 in
set_option maxRecDepth 100000 in
theorem m_isOnLand (l : Launch) (G : va_G) (k : Nat → ClassId) (sa : Nat → Nat) (h0 : Nat) (v : Nat → Nat) (a : Int32) : Met l yX11_isOnLand vs_m_isOnLand ({ frames := 1, cells := 0, slots := 0, locals := 21 } : Room) (gR G k sa [.ref h0, .int a] [(h0, .inr (11, [.ref (v 0), .int 0, .int 0, .ref (v 3), .ref (v 4), .ref (v 5), .ref (v 6), .ref (v 7), .int 0, .int 0, .int 0, .int 0, .int 0, .int 0, .int 0, .ref (v 15), .int 0, .ref (v 17), .int 0, .ref (v 19), .ref (v 20), .int (-1), .int 0, .ref (v 23), .int (-1), .int (-1), .int (-1), .int 0, .int (-1), .int 0, .ref (v 30), .int 0, .ref (v 32), .int 0, .int 0, .ref (v 35), .ref (v 36), .ref (v 37), .ref (v 38), .long 0, .ref (v 40), .ref (v 41), .ref (v 42), .ref (v 43)])), (v 20, .inl (k 0, 206, .inl (fun _ => 0)))]) (vp_Si (fun r => r = 0)) 0 0 (fun _ => False) := by
  refine gz_metR (cc := cX11_isOnLand) (maxL := 2) (ret := (some .boolean)) (by decide) rfl (Nat.le_of_ble_eq_true rfl) ?_
  intro p_ e_ s_ m below_ meth_ c_ ls hx hb hr hml hts hown hlocks hP hE hl
  have hl : lv_has ls 2 [(0, .ref h0), (1, .int a)] := hl
  refine lv_aload_n hx hb dX11_isOnLand_0 rfl (lv_at hl 0 rfl) ?_
  refine lv_iload_n hx hb dX11_isOnLand_1 rfl (lv_at hl 1 rfl) ?_
  refine vp_callSi (W.runV (As := [.int a]) (rest := []) ⟨hx, hb, hml, hown, hts⟩ (m_isPerson l G k sa h0 v a) (cwV 1 hts g_m_isOnLand_305_m_isPerson rfl rfl rfl (by decide +kernel) ⟨(Nat.le_of_ble_eq_true rfl), (Nat.le_of_ble_eq_true rfl)⟩) ⟨gR.bl, va_recv hE.K hP (ci := 11) (q0 := 0) rfl rfl, (gR.pre (wc := [(h0, .inr (11, [.ref (v 0), .int 0, .int 0, .ref (v 3), .ref (v 4), .ref (v 5), .ref (v 6), .ref (v 7), .int 0, .int 0, .int 0, .int 0, .int 0, .int 0, .int 0, .ref (v 15), .int 0, .ref (v 17), .int 0, .ref (v 19), .ref (v 20), .int (-1), .int 0, .ref (v 23), .int (-1), .int (-1), .int (-1), .int 0, .int (-1), .int 0, .ref (v 30), .int 0, .ref (v 32), .int 0, .int 0, .ref (v 35), .ref (v 36), .ref (v 37), .ref (v 38), .long 0, .ref (v 40), .ref (v 41), .ref (v 42), .ref (v 43)])), (v 20, .inl (k 0, 206, .inl (fun _ => 0)))]) hE hP [0, 1] rfl)⟩ rfl rfl hl.1 rfl (lv_room (Nat.le_of_ble_eq_true rfl)) dX11_isOnLand_2 ⟨(Nat.le_of_ble_eq_true rfl), (Nat.le_of_ble_eq_true rfl)⟩) (fun r_1 hr_1 => ?_)
  obtain rfl : r_1 = 0 := hr_1
  refine lv_if_eq (tgt := 20) hx hb dX11_isOnLand_5 (by decide) (fun _ => ?_) (fun h9 => absurd h9 (by decide))
  refine lv_iconst (v := 0) hx hb dX11_isOnLand_20 (by decide) ?_
  exact W.zret (v := 0) hx hb hr (by decide) (fun t ht hW => ⟨0, rfl, rfl, ht⟩) (fun _ h9 => absurd h9 List.not_mem_nil) dX11_isOnLand_21
set_option maxHeartbeats 4000000 in
set_option maxRecDepth 100000 in
theorem m_isRule (l : Launch) (G : va_G) (k : Nat → ClassId) (sa : Nat → Nat) (h0 : Nat) (v : Nat → Nat) (a : Int32) : Met l yX11_isRule vs_m_isRule ({ frames := 0, cells := 0, slots := 0, locals := 0 } : Room) (gR G k sa [.ref h0, .int a] [(h0, .inr (11, [.ref (v 0), .int 0, .int 0, .ref (v 3), .ref (v 4), .ref (v 5), .ref (v 6), .ref (v 7), .int 0, .int 0, .int 0, .int 0, .int 0, .int 0, .int 0, .ref (v 15), .int 0, .ref (v 17), .int 0, .ref (v 19), .ref (v 20), .int (-1), .int 0, .ref (v 23), .int (-1), .int (-1), .int (-1), .int 0, .int (-1), .int 0, .ref (v 30), .int 0, .ref (v 32), .int 0, .int 0, .ref (v 35), .ref (v 36), .ref (v 37), .ref (v 38), .long 0, .ref (v 40), .ref (v 41), .ref (v 42), .ref (v 43)]))]) (vp_Si (fun r => r = 0)) 0 0 (fun _ => False) := by
  refine gz_metR (cc := cX11_isRule) (maxL := 2) (ret := (some .boolean)) (by decide) rfl (Nat.le_of_ble_eq_true rfl) ?_
  intro p_ e_ s_ m below_ meth_ c_ ls hx hb hr hml hts hown hlocks hP hE hl
  have hl : lv_has ls 2 [(0, .ref h0), (1, .int a)] := hl
  refine lv_iload_n hx hb dX11_isRule_0 rfl (lv_at hl 1 rfl) ?_
  refine lv_if_lt (tgt := 16) hx hb dX11_isRule_1 (by decide) (fun c_1 => ?_) (fun c_1 => ?_)
  · refine lv_iconst (v := 0) hx hb dX11_isRule_16 (by decide) ?_
    exact W.zret (v := 0) hx hb hr (by decide) (fun t ht hW => ⟨0, rfl, rfl, ht⟩) (fun _ h9 => absurd h9 List.not_mem_nil) dX11_isRule_17
  · refine lv_iload_n hx hb dX11_isRule_4 rfl (lv_at hl 1 rfl) ?_
    refine lv_aload_n hx hb dX11_isRule_5 rfl (lv_at hl 0 rfl) ?_
    refine va_get (D := G) (ci := 11) (v := .int 0) (C := RX11) (T := TX11) (N := 44) hx hb hts j_m_isRule_11 hown hE.K hP 0 rfl rfl 2 (by decide) (hts (.fieldLink RX11 272 "GossamerGateModel" "rules" "I") (List.mem_cons_of_mem _ (List.mem_append_left _ (List.mem_of_getElem? (i := 0) rfl)))) (fun _ h9 => h9) rfl dX11_isRule_6 ?_
    refine lv_icmp_ge (tgt := 16) hx hb dX11_isRule_9 (by decide) (fun c_2 => ?_) (fun c_2 => ?_)
    · refine lv_iconst (v := 0) hx hb dX11_isRule_16 (by decide) ?_
      exact W.zret (v := 0) hx hb hr (by decide) (fun t ht hW => ⟨0, rfl, rfl, ht⟩) (fun _ h9 => absurd h9 List.not_mem_nil) dX11_isRule_17
    · rw [gz_le] at c_2
      rw [gz_lt] at c_1
      have hz0 := gz_k_0
      omega
set_option maxHeartbeats 4000000 in
set_option maxRecDepth 100000 in
theorem m_person (l : Launch) (G : va_G) (k : Nat → ClassId) (sa : Nat → Nat) (h0 : Nat) (v : Nat → Nat) (a : Int32) (b : Int32) : Met l yX11_person vs_m_person ({ frames := 1, cells := 0, slots := 0, locals := 21 } : Room) (gR G k sa [.ref h0, .int a, .int b] [(h0, .inr (11, [.ref (v 0), .int 0, .int 0, .ref (v 3), .ref (v 4), .ref (v 5), .ref (v 6), .ref (v 7), .int 0, .int 0, .int 0, .int 0, .int 0, .int 0, .int 0, .ref (v 15), .int 0, .ref (v 17), .int 0, .ref (v 19), .ref (v 20), .int (-1), .int 0, .ref (v 23), .int (-1), .int (-1), .int (-1), .int 0, .int (-1), .int 0, .ref (v 30), .int 0, .ref (v 32), .int 0, .int 0, .ref (v 35), .ref (v 36), .ref (v 37), .ref (v 38), .long 0, .ref (v 40), .ref (v 41), .ref (v 42), .ref (v 43)])), (v 20, .inl (k 0, 206, .inl (fun _ => 0)))]) (vp_Si (fun r => r = (-2))) 0 0 (fun _ => False) := by
  refine gz_metR (cc := cX11_person) (maxL := 3) (ret := (some .int)) (by decide) rfl (Nat.le_of_ble_eq_true rfl) ?_
  intro p_ e_ s_ m below_ meth_ c_ ls hx hb hr hml hts hown hlocks hP hE hl
  have hl : lv_has ls 3 [(0, .ref h0), (1, .int a), (2, .int b)] := hl
  refine lv_aload_n hx hb dX11_person_0 rfl (lv_at hl 0 rfl) ?_
  refine lv_iload_n hx hb dX11_person_1 rfl (lv_at hl 1 rfl) ?_
  refine vp_callSi (W.runV (As := [.int a]) (rest := []) ⟨hx, hb, hml, hown, hts⟩ (m_isPerson l G k sa h0 v a) (cwV 1 hts g_m_person_305_m_isPerson rfl rfl rfl (by decide +kernel) ⟨(Nat.le_of_ble_eq_true rfl), (Nat.le_of_ble_eq_true rfl)⟩) ⟨gR.bl, va_recv hE.K hP (ci := 11) (q0 := 0) rfl rfl, (gR.pre (wc := [(h0, .inr (11, [.ref (v 0), .int 0, .int 0, .ref (v 3), .ref (v 4), .ref (v 5), .ref (v 6), .ref (v 7), .int 0, .int 0, .int 0, .int 0, .int 0, .int 0, .int 0, .ref (v 15), .int 0, .ref (v 17), .int 0, .ref (v 19), .ref (v 20), .int (-1), .int 0, .ref (v 23), .int (-1), .int (-1), .int (-1), .int 0, .int (-1), .int 0, .ref (v 30), .int 0, .ref (v 32), .int 0, .int 0, .ref (v 35), .ref (v 36), .ref (v 37), .ref (v 38), .long 0, .ref (v 40), .ref (v 41), .ref (v 42), .ref (v 43)])), (v 20, .inl (k 0, 206, .inl (fun _ => 0)))]) hE hP [0, 1] rfl)⟩ rfl rfl hl.1 rfl (lv_room (Nat.le_of_ble_eq_true rfl)) dX11_person_2 ⟨(Nat.le_of_ble_eq_true rfl), (Nat.le_of_ble_eq_true rfl)⟩) (fun r_1 hr_1 => ?_)
  obtain rfl : r_1 = 0 := hr_1
  refine lv_if_ne (tgt := 11) hx hb dX11_person_5 (by decide) (fun h9 => absurd h9 (by decide)) (fun _ => ?_)
  refine lv_bipush (v := (-2)) hx hb dX11_person_8 (by decide) ?_
  exact W.iret (v := (-2)) hx hb hr (fun t ht hW => ⟨(-2), rfl, rfl, ht⟩) (fun _ h9 => absurd h9 List.not_mem_nil) dX11_person_10
set_option maxHeartbeats 4000000 in
set_option maxRecDepth 100000 in
theorem m_wind (l : Launch) (G : va_G) (k : Nat → ClassId) (sa : Nat → Nat) (h0 : Nat) (v : Nat → Nat) (a : Int32) (b : Int32) : Met l yX11_wind vs_m_wind ({ frames := 2, cells := 0, slots := 0, locals := 40 } : Room) (gR G k sa [.ref h0, .int a, .int b] [(h0, .inr (11, [.ref (v 0), .int 0, .int 0, .ref (v 3), .ref (v 4), .ref (v 5), .ref (v 6), .ref (v 7), .int 0, .int 0, .int 0, .int 0, .int 0, .int 0, .int 0, .ref (v 15), .int 0, .ref (v 17), .int 0, .ref (v 19), .ref (v 20), .int (-1), .int 0, .ref (v 23), .int (-1), .int (-1), .int (-1), .int 0, .int (-1), .int 0, .ref (v 30), .int 0, .ref (v 32), .int 0, .int 0, .ref (v 35), .ref (v 36), .ref (v 37), .ref (v 38), .long 0, .ref (v 40), .ref (v 41), .ref (v 42), .ref (v 43)])), (v 20, .inl (k 0, 206, .inl (fun _ => 0)))]) (vp_Si (fun r => r = (-1))) 0 0 (fun _ => False) := by
  refine gz_metR (cc := cX11_wind) (maxL := 3) (ret := (some .int)) (by decide) rfl (Nat.le_of_ble_eq_true rfl) ?_
  intro p_ e_ s_ m below_ meth_ c_ ls hx hb hr hml hts hown hlocks hP hE hl
  have hl : lv_has ls 3 [(0, .ref h0), (1, .int a), (2, .int b)] := hl
  refine lv_iload_n hx hb dX11_wind_0 rfl (lv_at hl 1 rfl) ?_
  refine lv_if_lt (tgt := 38) hx hb dX11_wind_1 (by decide) (fun c_1 => ?_) (fun c_1 => ?_)
  · refine lv_iconst (v := (-1)) hx hb dX11_wind_38 (by decide) ?_
    exact W.iret (v := (-1)) hx hb hr (fun t ht hW => ⟨(-1), rfl, rfl, ht⟩) (fun _ h9 => absurd h9 List.not_mem_nil) dX11_wind_39
  · refine lv_iload_n hx hb dX11_wind_4 rfl (lv_at hl 1 rfl) ?_
    refine lv_aload_n hx hb dX11_wind_5 rfl (lv_at hl 0 rfl) ?_
    refine vp_callSi (W.runV (As := []) (rest := [.int a]) ⟨hx, hb, hml, hown, hts⟩ (m_rounds l G k sa h0 v) (cwV 0 hts g_m_wind_314_m_rounds rfl rfl rfl (by decide +kernel) ⟨(Nat.le_of_ble_eq_true rfl), (Nat.le_of_ble_eq_true rfl)⟩) ⟨gR.bl, va_recv hE.K hP (ci := 11) (q0 := 0) rfl rfl, (gR.pre (wc := [(h0, .inr (11, [.ref (v 0), .int 0, .int 0, .ref (v 3), .ref (v 4), .ref (v 5), .ref (v 6), .ref (v 7), .int 0, .int 0, .int 0, .int 0, .int 0, .int 0, .int 0, .ref (v 15), .int 0, .ref (v 17), .int 0, .ref (v 19), .ref (v 20), .int (-1), .int 0, .ref (v 23), .int (-1), .int (-1), .int (-1), .int 0, .int (-1), .int 0, .ref (v 30), .int 0, .ref (v 32), .int 0, .int 0, .ref (v 35), .ref (v 36), .ref (v 37), .ref (v 38), .long 0, .ref (v 40), .ref (v 41), .ref (v 42), .ref (v 43)])), (v 20, .inl (k 0, 206, .inl (fun _ => 0)))]) hE hP [0, 1] rfl)⟩ rfl rfl hl.1 rfl (lv_room (Nat.le_of_ble_eq_true rfl)) dX11_wind_6 ⟨(Nat.le_of_ble_eq_true rfl), (Nat.le_of_ble_eq_true rfl)⟩) (fun r_2 hr_2 => ?_)
    obtain rfl : r_2 = 0 := hr_2
    refine lv_icmp_ge (tgt := 38) hx hb dX11_wind_9 (by decide) (fun c_3 => ?_) (fun c_3 => ?_)
    · refine lv_iconst (v := (-1)) hx hb dX11_wind_38 (by decide) ?_
      exact W.iret (v := (-1)) hx hb hr (fun t ht hW => ⟨(-1), rfl, rfl, ht⟩) (fun _ h9 => absurd h9 List.not_mem_nil) dX11_wind_39
    · rw [gz_le] at c_3
      rw [gz_lt] at c_1
      have hz0 := gz_k_0
      omega
set_option maxHeartbeats 4000000 in
set_option maxRecDepth 100000 in
theorem m_gateIn (l : Launch) (G : va_G) (k : Nat → ClassId) (sa : Nat → Nat) (h0 : Nat) (v : Nat → Nat) (a : Int32) : Met l yX11_gateIn vs_m_gateIn ({ frames := 2, cells := 0, slots := 0, locals := 41 } : Room) (gR G k sa [.ref h0, .int a] [(h0, .inr (11, [.ref (v 0), .int 0, .int 0, .ref (v 3), .ref (v 4), .ref (v 5), .ref (v 6), .ref (v 7), .int 0, .int 0, .int 0, .int 0, .int 0, .int 0, .int 0, .ref (v 15), .int 0, .ref (v 17), .int 0, .ref (v 19), .ref (v 20), .int (-1), .int 0, .ref (v 23), .int (-1), .int (-1), .int (-1), .int 0, .int (-1), .int 0, .ref (v 30), .int 0, .ref (v 32), .int 0, .int 0, .ref (v 35), .ref (v 36), .ref (v 37), .ref (v 38), .long 0, .ref (v 40), .ref (v 41), .ref (v 42), .ref (v 43)])), (v 20, .inl (k 0, 206, .inl (fun _ => 0)))]) (vp_Si (fun r => r = (-1))) 0 0 (fun _ => False) := by
  refine gz_metR (cc := cX11_gateIn) (maxL := 2) (ret := (some .int)) (by decide) rfl (Nat.le_of_ble_eq_true rfl) ?_
  intro p_ e_ s_ m below_ meth_ c_ ls hx hb hr hml hts hown hlocks hP hE hl
  have hl : lv_has ls 2 [(0, .ref h0), (1, .int a)] := hl
  refine lv_aload_n hx hb dX11_gateIn_0 rfl (lv_at hl 0 rfl) ?_
  refine lv_iload_n hx hb dX11_gateIn_1 rfl (lv_at hl 1 rfl) ?_
  refine vp_callSi (W.runV (As := [.int a]) (rest := []) ⟨hx, hb, hml, hown, hts⟩ (m_isCell l G k sa h0 v a) (cwV 1 hts g_m_gateIn_335_m_isCell rfl rfl rfl (by decide +kernel) ⟨(Nat.le_of_ble_eq_true rfl), (Nat.le_of_ble_eq_true rfl)⟩) ⟨gR.bl, va_recv hE.K hP (ci := 11) (q0 := 0) rfl rfl, (gR.pre (wc := [(h0, .inr (11, [.ref (v 0), .int 0, .int 0, .ref (v 3), .ref (v 4), .ref (v 5), .ref (v 6), .ref (v 7), .int 0, .int 0, .int 0, .int 0, .int 0, .int 0, .int 0, .ref (v 15), .int 0, .ref (v 17), .int 0, .ref (v 19), .ref (v 20), .int (-1), .int 0, .ref (v 23), .int (-1), .int (-1), .int (-1), .int 0, .int (-1), .int 0, .ref (v 30), .int 0, .ref (v 32), .int 0, .int 0, .ref (v 35), .ref (v 36), .ref (v 37), .ref (v 38), .long 0, .ref (v 40), .ref (v 41), .ref (v 42), .ref (v 43)])), (v 20, .inl (k 0, 206, .inl (fun _ => 0)))]) hE hP [0, 1] rfl)⟩ rfl rfl hl.1 rfl (lv_room (Nat.le_of_ble_eq_true rfl)) dX11_gateIn_2 ⟨(Nat.le_of_ble_eq_true rfl), (Nat.le_of_ble_eq_true rfl)⟩) (fun r_1 hr_1 => ?_)
  obtain rfl : r_1 = 0 := hr_1
  refine lv_if_eq (tgt := 20) hx hb dX11_gateIn_5 (by decide) (fun _ => ?_) (fun h9 => absurd h9 (by decide))
  refine lv_iconst (v := (-1)) hx hb dX11_gateIn_20 (by decide) ?_
  exact W.iret (v := (-1)) hx hb hr (fun t ht hW => ⟨(-1), rfl, rfl, ht⟩) (fun _ h9 => absurd h9 List.not_mem_nil) dX11_gateIn_21
set_option maxHeartbeats 4000000 in
set_option maxRecDepth 100000 in
theorem m_hour (l : Launch) (G : va_G) (k : Nat → ClassId) (sa : Nat → Nat) (h0 : Nat) (v : Nat → Nat) : Met l yX11_hour vs_m_hour ({ frames := 1, cells := 0, slots := 0, locals := 20 } : Room) (gR G k sa [.ref h0] [(h0, .inr (11, [.ref (v 0), .int 0, .int 0, .ref (v 3), .ref (v 4), .ref (v 5), .ref (v 6), .ref (v 7), .int 0, .int 0, .int 0, .int 0, .int 0, .int 0, .int 0, .ref (v 15), .int 0, .ref (v 17), .int 0, .ref (v 19), .ref (v 20), .int (-1), .int 0, .ref (v 23), .int (-1), .int (-1), .int (-1), .int 0, .int (-1), .int 0, .ref (v 30), .int 0, .ref (v 32), .int 0, .int 0, .ref (v 35), .ref (v 36), .ref (v 37), .ref (v 38), .long 0, .ref (v 40), .ref (v 41), .ref (v 42), .ref (v 43)])), (v 20, .inl (k 0, 206, .inl (fun _ => 0)))]) (vp_Si (fun r => r = (-1))) 0 0 (fun _ => False) := by
  refine gz_metR (cc := cX11_hour) (maxL := 1) (ret := (some .int)) (by decide) rfl (Nat.le_of_ble_eq_true rfl) ?_
  intro p_ e_ s_ m below_ meth_ c_ ls hx hb hr hml hts hown hlocks hP hE hl
  have hl : lv_has ls 1 [(0, .ref h0)] := hl
  refine lv_aload_n hx hb dX11_hour_0 rfl (lv_at hl 0 rfl) ?_
  refine vp_callSi (W.runV (As := []) (rest := []) ⟨hx, hb, hml, hown, hts⟩ (m_isCountry l G k sa h0 v) (cwV 0 hts g_m_hour_299_m_isCountry rfl rfl rfl (by decide +kernel) ⟨(Nat.le_of_ble_eq_true rfl), (Nat.le_of_ble_eq_true rfl)⟩) ⟨gR.bl, va_recv hE.K hP (ci := 11) (q0 := 0) rfl rfl, (gR.pre (wc := [(h0, .inr (11, [.ref (v 0), .int 0, .int 0, .ref (v 3), .ref (v 4), .ref (v 5), .ref (v 6), .ref (v 7), .int 0, .int 0, .int 0, .int 0, .int 0, .int 0, .int 0, .ref (v 15), .int 0, .ref (v 17), .int 0, .ref (v 19), .ref (v 20), .int (-1), .int 0, .ref (v 23), .int (-1), .int (-1), .int (-1), .int 0, .int (-1), .int 0, .ref (v 30), .int 0, .ref (v 32), .int 0, .int 0, .ref (v 35), .ref (v 36), .ref (v 37), .ref (v 38), .long 0, .ref (v 40), .ref (v 41), .ref (v 42), .ref (v 43)])), (v 20, .inl (k 0, 206, .inl (fun _ => 0)))]) hE hP [0, 1] rfl)⟩ rfl rfl hl.1 rfl (lv_room (Nat.le_of_ble_eq_true rfl)) dX11_hour_1 ⟨(Nat.le_of_ble_eq_true rfl), (Nat.le_of_ble_eq_true rfl)⟩) (fun r_1 hr_1 => ?_)
  obtain rfl : r_1 = 0 := hr_1
  refine lv_if_eq (tgt := 20) hx hb dX11_hour_4 (by decide) (fun _ => ?_) (fun h9 => absurd h9 (by decide))
  refine lv_iconst (v := (-1)) hx hb dX11_hour_20 (by decide) ?_
  exact W.iret (v := (-1)) hx hb hr (fun t ht hW => ⟨(-1), rfl, rfl, ht⟩) (fun _ h9 => absurd h9 List.not_mem_nil) dX11_hour_21
set_option maxHeartbeats 4000000 in
set_option maxRecDepth 100000 in
theorem m_tell (l : Launch) (G : va_G) (k : Nat → ClassId) (sa : Nat → Nat) (h0 : Nat) (v : Nat → Nat) (a : Int32) (b : Int32) : Met l yX11_tell vs_m_tell ({ frames := 1, cells := 0, slots := 0, locals := 21 } : Room) (gR G k sa [.ref h0, .int a, .int b] [(h0, .inr (11, [.ref (v 0), .int 0, .int 0, .ref (v 3), .ref (v 4), .ref (v 5), .ref (v 6), .ref (v 7), .int 0, .int 0, .int 0, .int 0, .int 0, .int 0, .int 0, .ref (v 15), .int 0, .ref (v 17), .int 0, .ref (v 19), .ref (v 20), .int (-1), .int 0, .ref (v 23), .int (-1), .int (-1), .int (-1), .int 0, .int (-1), .int 0, .ref (v 30), .int 0, .ref (v 32), .int 0, .int 0, .ref (v 35), .ref (v 36), .ref (v 37), .ref (v 38), .long 0, .ref (v 40), .ref (v 41), .ref (v 42), .ref (v 43)])), (v 20, .inl (k 0, 206, .inl (fun _ => 0)))]) (vp_Si (fun r => r = (-1))) 0 0 (fun _ => False) := by
  refine gz_metR (cc := cX11_tell) (maxL := 3) (ret := (some .int)) (by decide) rfl (Nat.le_of_ble_eq_true rfl) ?_
  intro p_ e_ s_ m below_ meth_ c_ ls hx hb hr hml hts hown hlocks hP hE hl
  have hl : lv_has ls 3 [(0, .ref h0), (1, .int a), (2, .int b)] := hl
  refine lv_aload_n hx hb dX11_tell_0 rfl (lv_at hl 0 rfl) ?_
  refine lv_iload_n hx hb dX11_tell_1 rfl (lv_at hl 1 rfl) ?_
  refine vp_callSi (W.runV (As := [.int a]) (rest := []) ⟨hx, hb, hml, hown, hts⟩ (m_isPerson l G k sa h0 v a) (cwV 1 hts g_m_tell_305_m_isPerson rfl rfl rfl (by decide +kernel) ⟨(Nat.le_of_ble_eq_true rfl), (Nat.le_of_ble_eq_true rfl)⟩) ⟨gR.bl, va_recv hE.K hP (ci := 11) (q0 := 0) rfl rfl, (gR.pre (wc := [(h0, .inr (11, [.ref (v 0), .int 0, .int 0, .ref (v 3), .ref (v 4), .ref (v 5), .ref (v 6), .ref (v 7), .int 0, .int 0, .int 0, .int 0, .int 0, .int 0, .int 0, .ref (v 15), .int 0, .ref (v 17), .int 0, .ref (v 19), .ref (v 20), .int (-1), .int 0, .ref (v 23), .int (-1), .int (-1), .int (-1), .int 0, .int (-1), .int 0, .ref (v 30), .int 0, .ref (v 32), .int 0, .int 0, .ref (v 35), .ref (v 36), .ref (v 37), .ref (v 38), .long 0, .ref (v 40), .ref (v 41), .ref (v 42), .ref (v 43)])), (v 20, .inl (k 0, 206, .inl (fun _ => 0)))]) hE hP [0, 1] rfl)⟩ rfl rfl hl.1 rfl (lv_room (Nat.le_of_ble_eq_true rfl)) dX11_tell_2 ⟨(Nat.le_of_ble_eq_true rfl), (Nat.le_of_ble_eq_true rfl)⟩) (fun r_1 hr_1 => ?_)
  obtain rfl : r_1 = 0 := hr_1
  refine lv_if_eq (tgt := 38) hx hb dX11_tell_5 (by decide) (fun _ => ?_) (fun h9 => absurd h9 (by decide))
  refine lv_iconst (v := (-1)) hx hb dX11_tell_38 (by decide) ?_
  exact W.iret (v := (-1)) hx hb hr (fun t ht hW => ⟨(-1), rfl, rfl, ht⟩) (fun _ h9 => absurd h9 List.not_mem_nil) dX11_tell_39
set_option maxHeartbeats 4000000 in
set_option maxRecDepth 100000 in
theorem m_save (l : Launch) (G : va_G) (k : Nat → ClassId) (sa : Nat → Nat) (h0 : Nat) (v : Nat → Nat) (a : Int32) (b : Int32) : Met l yX11_save vs_m_save ({ frames := 1, cells := 0, slots := 0, locals := 21 } : Room) (gR G k sa [.ref h0, .int a, .int b] [(h0, .inr (11, [.ref (v 0), .int 0, .int 0, .ref (v 3), .ref (v 4), .ref (v 5), .ref (v 6), .ref (v 7), .int 0, .int 0, .int 0, .int 0, .int 0, .int 0, .int 0, .ref (v 15), .int 0, .ref (v 17), .int 0, .ref (v 19), .ref (v 20), .int (-1), .int 0, .ref (v 23), .int (-1), .int (-1), .int (-1), .int 0, .int (-1), .int 0, .ref (v 30), .int 0, .ref (v 32), .int 0, .int 0, .ref (v 35), .ref (v 36), .ref (v 37), .ref (v 38), .long 0, .ref (v 40), .ref (v 41), .ref (v 42), .ref (v 43)])), (v 20, .inl (k 0, 206, .inl (fun _ => 0)))]) (vp_Si (fun r => r = (-1))) 0 0 (fun _ => False) := by
  refine gz_metR (cc := cX11_save) (maxL := 4) (ret := (some .int)) (by decide) rfl (Nat.le_of_ble_eq_true rfl) ?_
  intro p_ e_ s_ m below_ meth_ c_ ls hx hb hr hml hts hown hlocks hP hE hl
  have hl : lv_has ls 4 [(0, .ref h0), (1, .int a), (2, .int b)] := hl
  refine lv_aload_n hx hb dX11_save_0 rfl (lv_at hl 0 rfl) ?_
  refine lv_iload_n hx hb dX11_save_1 rfl (lv_at hl 1 rfl) ?_
  refine vp_callSi (W.runV (As := [.int a]) (rest := []) ⟨hx, hb, hml, hown, hts⟩ (m_isPerson l G k sa h0 v a) (cwV 1 hts g_m_save_305_m_isPerson rfl rfl rfl (by decide +kernel) ⟨(Nat.le_of_ble_eq_true rfl), (Nat.le_of_ble_eq_true rfl)⟩) ⟨gR.bl, va_recv hE.K hP (ci := 11) (q0 := 0) rfl rfl, (gR.pre (wc := [(h0, .inr (11, [.ref (v 0), .int 0, .int 0, .ref (v 3), .ref (v 4), .ref (v 5), .ref (v 6), .ref (v 7), .int 0, .int 0, .int 0, .int 0, .int 0, .int 0, .int 0, .ref (v 15), .int 0, .ref (v 17), .int 0, .ref (v 19), .ref (v 20), .int (-1), .int 0, .ref (v 23), .int (-1), .int (-1), .int (-1), .int 0, .int (-1), .int 0, .ref (v 30), .int 0, .ref (v 32), .int 0, .int 0, .ref (v 35), .ref (v 36), .ref (v 37), .ref (v 38), .long 0, .ref (v 40), .ref (v 41), .ref (v 42), .ref (v 43)])), (v 20, .inl (k 0, 206, .inl (fun _ => 0)))]) hE hP [0, 1] rfl)⟩ rfl rfl hl.1 rfl (lv_room (Nat.le_of_ble_eq_true rfl)) dX11_save_2 ⟨(Nat.le_of_ble_eq_true rfl), (Nat.le_of_ble_eq_true rfl)⟩) (fun r_1 hr_1 => ?_)
  obtain rfl : r_1 = 0 := hr_1
  refine lv_if_eq (tgt := 29) hx hb dX11_save_5 (by decide) (fun _ => ?_) (fun h9 => absurd h9 (by decide))
  refine lv_iconst (v := (-1)) hx hb dX11_save_29 (by decide) ?_
  exact W.iret (v := (-1)) hx hb hr (fun t ht hW => ⟨(-1), rfl, rfl, ht⟩) (fun _ h9 => absurd h9 List.not_mem_nil) dX11_save_30
set_option maxHeartbeats 4000000 in
set_option maxRecDepth 100000 in
theorem m_carry (l : Launch) (G : va_G) (k : Nat → ClassId) (sa : Nat → Nat) (h0 : Nat) (v : Nat → Nat) (a : Int32) (b : Int32) : Met l yX11_carry vs_m_carry ({ frames := 2, cells := 0, slots := 0, locals := 42 } : Room) (gR G k sa [.ref h0, .int a, .int b] [(h0, .inr (11, [.ref (v 0), .int 0, .int 0, .ref (v 3), .ref (v 4), .ref (v 5), .ref (v 6), .ref (v 7), .int 0, .int 0, .int 0, .int 0, .int 0, .int 0, .int 0, .ref (v 15), .int 0, .ref (v 17), .int 0, .ref (v 19), .ref (v 20), .int (-1), .int 0, .ref (v 23), .int (-1), .int (-1), .int (-1), .int 0, .int (-1), .int 0, .ref (v 30), .int 0, .ref (v 32), .int 0, .int 0, .ref (v 35), .ref (v 36), .ref (v 37), .ref (v 38), .long 0, .ref (v 40), .ref (v 41), .ref (v 42), .ref (v 43)])), (v 20, .inl (k 0, 206, .inl (fun _ => 0)))]) (vp_Si (fun r => r = (-1))) 0 0 (fun _ => False) := by
  refine gz_metR (cc := cX11_carry) (maxL := 4) (ret := (some .int)) (by decide) rfl (Nat.le_of_ble_eq_true rfl) ?_
  intro p_ e_ s_ m below_ meth_ c_ ls hx hb hr hml hts hown hlocks hP hE hl
  have hl : lv_has ls 4 [(0, .ref h0), (1, .int a), (2, .int b)] := hl
  refine lv_aload_n hx hb dX11_carry_0 rfl (lv_at hl 0 rfl) ?_
  refine lv_iload_n hx hb dX11_carry_1 rfl (lv_at hl 1 rfl) ?_
  refine vp_callSi (W.runV (As := [.int a]) (rest := []) ⟨hx, hb, hml, hown, hts⟩ (m_isOnLand l G k sa h0 v a) (cwV 1 hts g_m_carry_393_m_isOnLand rfl rfl rfl (by decide +kernel) ⟨(Nat.le_of_ble_eq_true rfl), (Nat.le_of_ble_eq_true rfl)⟩) ⟨gR.bl, va_recv hE.K hP (ci := 11) (q0 := 0) rfl rfl, (gR.pre (wc := [(h0, .inr (11, [.ref (v 0), .int 0, .int 0, .ref (v 3), .ref (v 4), .ref (v 5), .ref (v 6), .ref (v 7), .int 0, .int 0, .int 0, .int 0, .int 0, .int 0, .int 0, .ref (v 15), .int 0, .ref (v 17), .int 0, .ref (v 19), .ref (v 20), .int (-1), .int 0, .ref (v 23), .int (-1), .int (-1), .int (-1), .int 0, .int (-1), .int 0, .ref (v 30), .int 0, .ref (v 32), .int 0, .int 0, .ref (v 35), .ref (v 36), .ref (v 37), .ref (v 38), .long 0, .ref (v 40), .ref (v 41), .ref (v 42), .ref (v 43)])), (v 20, .inl (k 0, 206, .inl (fun _ => 0)))]) hE hP [0, 1] rfl)⟩ rfl rfl hl.1 rfl (lv_room (Nat.le_of_ble_eq_true rfl)) dX11_carry_2 ⟨(Nat.le_of_ble_eq_true rfl), (Nat.le_of_ble_eq_true rfl)⟩) (fun r_1 hr_1 => ?_)
  obtain rfl : r_1 = 0 := hr_1
  refine lv_if_eq (tgt := 25) hx hb dX11_carry_5 (by decide) (fun _ => ?_) (fun h9 => absurd h9 (by decide))
  refine lv_iconst (v := (-1)) hx hb dX11_carry_25 (by decide) ?_
  exact W.iret (v := (-1)) hx hb hr (fun t ht hW => ⟨(-1), rfl, rfl, ht⟩) (fun _ h9 => absurd h9 List.not_mem_nil) dX11_carry_26
set_option maxHeartbeats 4000000 in
set_option maxRecDepth 100000 in
theorem m_gate (l : Launch) (G : va_G) (k : Nat → ClassId) (sa : Nat → Nat) (h0 : Nat) (v : Nat → Nat) (a : Int32) : Met l yX11_gate vs_m_gate ({ frames := 2, cells := 0, slots := 0, locals := 41 } : Room) (gR G k sa [.ref h0, .int a] [(h0, .inr (11, [.ref (v 0), .int 0, .int 0, .ref (v 3), .ref (v 4), .ref (v 5), .ref (v 6), .ref (v 7), .int 0, .int 0, .int 0, .int 0, .int 0, .int 0, .int 0, .ref (v 15), .int 0, .ref (v 17), .int 0, .ref (v 19), .ref (v 20), .int (-1), .int 0, .ref (v 23), .int (-1), .int (-1), .int (-1), .int 0, .int (-1), .int 0, .ref (v 30), .int 0, .ref (v 32), .int 0, .int 0, .ref (v 35), .ref (v 36), .ref (v 37), .ref (v 38), .long 0, .ref (v 40), .ref (v 41), .ref (v 42), .ref (v 43)])), (v 20, .inl (k 0, 206, .inl (fun _ => 0)))]) (vp_Si (fun r => r = (-1))) 0 0 (fun _ => False) := by
  refine gz_metR (cc := cX11_gate) (maxL := 2) (ret := (some .int)) (by decide) rfl (Nat.le_of_ble_eq_true rfl) ?_
  intro p_ e_ s_ m below_ meth_ c_ ls hx hb hr hml hts hown hlocks hP hE hl
  have hl : lv_has ls 2 [(0, .ref h0), (1, .int a)] := hl
  refine lv_aload_n hx hb dX11_gate_0 rfl (lv_at hl 0 rfl) ?_
  refine lv_iload_n hx hb dX11_gate_1 rfl (lv_at hl 1 rfl) ?_
  refine vp_callSi (W.runV (As := [.int a]) (rest := []) ⟨hx, hb, hml, hown, hts⟩ (m_isCell l G k sa h0 v a) (cwV 1 hts g_m_gate_335_m_isCell rfl rfl rfl (by decide +kernel) ⟨(Nat.le_of_ble_eq_true rfl), (Nat.le_of_ble_eq_true rfl)⟩) ⟨gR.bl, va_recv hE.K hP (ci := 11) (q0 := 0) rfl rfl, (gR.pre (wc := [(h0, .inr (11, [.ref (v 0), .int 0, .int 0, .ref (v 3), .ref (v 4), .ref (v 5), .ref (v 6), .ref (v 7), .int 0, .int 0, .int 0, .int 0, .int 0, .int 0, .int 0, .ref (v 15), .int 0, .ref (v 17), .int 0, .ref (v 19), .ref (v 20), .int (-1), .int 0, .ref (v 23), .int (-1), .int (-1), .int (-1), .int 0, .int (-1), .int 0, .ref (v 30), .int 0, .ref (v 32), .int 0, .int 0, .ref (v 35), .ref (v 36), .ref (v 37), .ref (v 38), .long 0, .ref (v 40), .ref (v 41), .ref (v 42), .ref (v 43)])), (v 20, .inl (k 0, 206, .inl (fun _ => 0)))]) hE hP [0, 1] rfl)⟩ rfl rfl hl.1 rfl (lv_room (Nat.le_of_ble_eq_true rfl)) dX11_gate_2 ⟨(Nat.le_of_ble_eq_true rfl), (Nat.le_of_ble_eq_true rfl)⟩) (fun r_1 hr_1 => ?_)
  obtain rfl : r_1 = 0 := hr_1
  refine lv_if_ne (tgt := 10) hx hb dX11_gate_5 (by decide) (fun h9 => absurd h9 (by decide)) (fun _ => ?_)
  refine lv_iconst (v := (-1)) hx hb dX11_gate_8 (by decide) ?_
  exact W.iret (v := (-1)) hx hb hr (fun t ht hW => ⟨(-1), rfl, rfl, ht⟩) (fun _ h9 => absurd h9 List.not_mem_nil) dX11_gate_9
set_option maxHeartbeats 4000000 in
set_option maxRecDepth 100000 in
theorem m_undo (l : Launch) (G : va_G) (k : Nat → ClassId) (sa : Nat → Nat) (h0 : Nat) (v : Nat → Nat) : Met l yX11_undo vs_m_undo ({ frames := 0, cells := 0, slots := 0, locals := 0 } : Room) (gR G k sa [.ref h0] [(h0, .inr (11, [.ref (v 0), .int 0, .int 0, .ref (v 3), .ref (v 4), .ref (v 5), .ref (v 6), .ref (v 7), .int 0, .int 0, .int 0, .int 0, .int 0, .int 0, .int 0, .ref (v 15), .int 0, .ref (v 17), .int 0, .ref (v 19), .ref (v 20), .int (-1), .int 0, .ref (v 23), .int (-1), .int (-1), .int (-1), .int 0, .int (-1), .int 0, .ref (v 30), .int 0, .ref (v 32), .int 0, .int 0, .ref (v 35), .ref (v 36), .ref (v 37), .ref (v 38), .long 0, .ref (v 40), .ref (v 41), .ref (v 42), .ref (v 43)]))]) (vp_Si (fun r => r = (-1))) 0 0 (fun _ => False) := by
  refine gz_metR (cc := cX11_undo) (maxL := 2) (ret := (some .int)) (by decide) rfl (Nat.le_of_ble_eq_true rfl) ?_
  intro p_ e_ s_ m below_ meth_ c_ ls hx hb hr hml hts hown hlocks hP hE hl
  have hl : lv_has ls 2 [(0, .ref h0)] := hl
  refine lv_aload_n hx hb dX11_undo_0 rfl (lv_at hl 0 rfl) ?_
  refine va_get (D := G) (ci := 11) (v := .int 0) (C := RX11) (T := TX11) (N := 44) hx hb hts j_m_undo_11 hown hE.K hP 0 rfl rfl 31 (by decide) (hts (.fieldLink RX11 281 "GossamerGateModel" "undone" "I") (List.mem_cons_of_mem _ (List.mem_append_left _ (List.mem_of_getElem? (i := 0) rfl)))) (fun _ h9 => h9) rfl dX11_undo_1 ?_
  refine lv_if_ne (tgt := 9) hx hb dX11_undo_4 (by decide) (fun h9 => absurd h9 (by decide)) (fun _ => ?_)
  refine lv_iconst (v := (-1)) hx hb dX11_undo_7 (by decide) ?_
  exact W.iret (v := (-1)) hx hb hr (fun t ht hW => ⟨(-1), rfl, rfl, ht⟩) (fun _ h9 => absurd h9 List.not_mem_nil) dX11_undo_8
set_option maxHeartbeats 4000000 in
set_option maxRecDepth 100000 in
theorem m_ahead (l : Launch) (G : va_G) (k : Nat → ClassId) (sa : Nat → Nat) (h0 : Nat) (v : Nat → Nat) (a : Int32) (b : Int32) (c1 : Int32) : Met l yX11_ahead vs_m_ahead ({ frames := 1, cells := 0, slots := 0, locals := 21 } : Room) (gR G k sa [.ref h0, .int a, .int b, .int c1] [(h0, .inr (11, [.ref (v 0), .int 0, .int 0, .ref (v 3), .ref (v 4), .ref (v 5), .ref (v 6), .ref (v 7), .int 0, .int 0, .int 0, .int 0, .int 0, .int 0, .int 0, .ref (v 15), .int 0, .ref (v 17), .int 0, .ref (v 19), .ref (v 20), .int (-1), .int 0, .ref (v 23), .int (-1), .int (-1), .int (-1), .int 0, .int (-1), .int 0, .ref (v 30), .int 0, .ref (v 32), .int 0, .int 0, .ref (v 35), .ref (v 36), .ref (v 37), .ref (v 38), .long 0, .ref (v 40), .ref (v 41), .ref (v 42), .ref (v 43)])), (v 20, .inl (k 0, 206, .inl (fun _ => 0)))]) (vp_Si (fun r => r = (-2))) 0 0 (fun _ => False) := by
  refine gz_metR (cc := cX11_ahead) (maxL := 5) (ret := (some .int)) (by decide) rfl (Nat.le_of_ble_eq_true rfl) ?_
  intro p_ e_ s_ m below_ meth_ c_ ls hx hb hr hml hts hown hlocks hP hE hl
  have hl : lv_has ls 5 [(0, .ref h0), (1, .int a), (2, .int b), (3, .int c1)] := hl
  refine lv_aload_n hx hb dX11_ahead_0 rfl (lv_at hl 0 rfl) ?_
  refine lv_iload_n hx hb dX11_ahead_1 rfl (lv_at hl 1 rfl) ?_
  refine vp_callSi (W.runV (As := [.int a]) (rest := []) ⟨hx, hb, hml, hown, hts⟩ (m_isPerson l G k sa h0 v a) (cwV 1 hts g_m_ahead_305_m_isPerson rfl rfl rfl (by decide +kernel) ⟨(Nat.le_of_ble_eq_true rfl), (Nat.le_of_ble_eq_true rfl)⟩) ⟨gR.bl, va_recv hE.K hP (ci := 11) (q0 := 0) rfl rfl, (gR.pre (wc := [(h0, .inr (11, [.ref (v 0), .int 0, .int 0, .ref (v 3), .ref (v 4), .ref (v 5), .ref (v 6), .ref (v 7), .int 0, .int 0, .int 0, .int 0, .int 0, .int 0, .int 0, .ref (v 15), .int 0, .ref (v 17), .int 0, .ref (v 19), .ref (v 20), .int (-1), .int 0, .ref (v 23), .int (-1), .int (-1), .int (-1), .int 0, .int (-1), .int 0, .ref (v 30), .int 0, .ref (v 32), .int 0, .int 0, .ref (v 35), .ref (v 36), .ref (v 37), .ref (v 38), .long 0, .ref (v 40), .ref (v 41), .ref (v 42), .ref (v 43)])), (v 20, .inl (k 0, 206, .inl (fun _ => 0)))]) hE hP [0, 1] rfl)⟩ rfl rfl hl.1 rfl (lv_room (Nat.le_of_ble_eq_true rfl)) dX11_ahead_2 ⟨(Nat.le_of_ble_eq_true rfl), (Nat.le_of_ble_eq_true rfl)⟩) (fun r_1 hr_1 => ?_)
  obtain rfl : r_1 = 0 := hr_1
  refine lv_if_eq (tgt := 32) hx hb dX11_ahead_5 (by decide) (fun _ => ?_) (fun h9 => absurd h9 (by decide))
  refine lv_bipush (v := (-2)) hx hb dX11_ahead_32 (by decide) ?_
  exact W.iret (v := (-2)) hx hb hr (fun t ht hW => ⟨(-2), rfl, rfl, ht⟩) (fun _ h9 => absurd h9 List.not_mem_nil) dX11_ahead_34
set_option maxHeartbeats 4000000 in
set_option maxRecDepth 100000 in
theorem m_goes (l : Launch) (G : va_G) (k : Nat → ClassId) (sa : Nat → Nat) (h0 : Nat) (v : Nat → Nat) (a : Int32) : Met l yX11_goes vs_m_goes ({ frames := 1, cells := 0, slots := 0, locals := 21 } : Room) (gR G k sa [.ref h0, .int a] [(h0, .inr (11, [.ref (v 0), .int 0, .int 0, .ref (v 3), .ref (v 4), .ref (v 5), .ref (v 6), .ref (v 7), .int 0, .int 0, .int 0, .int 0, .int 0, .int 0, .int 0, .ref (v 15), .int 0, .ref (v 17), .int 0, .ref (v 19), .ref (v 20), .int (-1), .int 0, .ref (v 23), .int (-1), .int (-1), .int (-1), .int 0, .int (-1), .int 0, .ref (v 30), .int 0, .ref (v 32), .int 0, .int 0, .ref (v 35), .ref (v 36), .ref (v 37), .ref (v 38), .long 0, .ref (v 40), .ref (v 41), .ref (v 42), .ref (v 43)])), (v 20, .inl (k 0, 206, .inl (fun _ => 0)))]) (vp_Si (fun r => r = (-1))) 0 0 (fun _ => False) := by
  refine gz_metR (cc := cX11_goes) (maxL := 4) (ret := (some .int)) (by decide) rfl (Nat.le_of_ble_eq_true rfl) ?_
  intro p_ e_ s_ m below_ meth_ c_ ls hx hb hr hml hts hown hlocks hP hE hl
  have hl : lv_has ls 4 [(0, .ref h0), (1, .int a)] := hl
  refine lv_aload_n hx hb dX11_goes_0 rfl (lv_at hl 0 rfl) ?_
  refine lv_iload_n hx hb dX11_goes_1 rfl (lv_at hl 1 rfl) ?_
  refine vp_callSi (W.runV (As := [.int a]) (rest := []) ⟨hx, hb, hml, hown, hts⟩ (m_isPerson l G k sa h0 v a) (cwV 1 hts g_m_goes_305_m_isPerson rfl rfl rfl (by decide +kernel) ⟨(Nat.le_of_ble_eq_true rfl), (Nat.le_of_ble_eq_true rfl)⟩) ⟨gR.bl, va_recv hE.K hP (ci := 11) (q0 := 0) rfl rfl, (gR.pre (wc := [(h0, .inr (11, [.ref (v 0), .int 0, .int 0, .ref (v 3), .ref (v 4), .ref (v 5), .ref (v 6), .ref (v 7), .int 0, .int 0, .int 0, .int 0, .int 0, .int 0, .int 0, .ref (v 15), .int 0, .ref (v 17), .int 0, .ref (v 19), .ref (v 20), .int (-1), .int 0, .ref (v 23), .int (-1), .int (-1), .int (-1), .int 0, .int (-1), .int 0, .ref (v 30), .int 0, .ref (v 32), .int 0, .int 0, .ref (v 35), .ref (v 36), .ref (v 37), .ref (v 38), .long 0, .ref (v 40), .ref (v 41), .ref (v 42), .ref (v 43)])), (v 20, .inl (k 0, 206, .inl (fun _ => 0)))]) hE hP [0, 1] rfl)⟩ rfl rfl hl.1 rfl (lv_room (Nat.le_of_ble_eq_true rfl)) dX11_goes_2 ⟨(Nat.le_of_ble_eq_true rfl), (Nat.le_of_ble_eq_true rfl)⟩) (fun r_1 hr_1 => ?_)
  obtain rfl : r_1 = 0 := hr_1
  refine lv_if_ne (tgt := 10) hx hb dX11_goes_5 (by decide) (fun h9 => absurd h9 (by decide)) (fun _ => ?_)
  refine lv_iconst (v := (-1)) hx hb dX11_goes_8 (by decide) ?_
  exact W.iret (v := (-1)) hx hb hr (fun t ht hW => ⟨(-1), rfl, rfl, ht⟩) (fun _ h9 => absurd h9 List.not_mem_nil) dX11_goes_9
set_option maxHeartbeats 4000000 in
set_option maxRecDepth 100000 in
theorem m_down (l : Launch) (G : va_G) (k : Nat → ClassId) (sa : Nat → Nat) (h0 : Nat) (v : Nat → Nat) (a : Int32) (b : Int32) : Met l yX11_down vs_m_down ({ frames := 1, cells := 0, slots := 0, locals := 21 } : Room) (gR G k sa [.ref h0, .int a, .int b] [(h0, .inr (11, [.ref (v 0), .int 0, .int 0, .ref (v 3), .ref (v 4), .ref (v 5), .ref (v 6), .ref (v 7), .int 0, .int 0, .int 0, .int 0, .int 0, .int 0, .int 0, .ref (v 15), .int 0, .ref (v 17), .int 0, .ref (v 19), .ref (v 20), .int (-1), .int 0, .ref (v 23), .int (-1), .int (-1), .int (-1), .int 0, .int (-1), .int 0, .ref (v 30), .int 0, .ref (v 32), .int 0, .int 0, .ref (v 35), .ref (v 36), .ref (v 37), .ref (v 38), .long 0, .ref (v 40), .ref (v 41), .ref (v 42), .ref (v 43)])), (v 20, .inl (k 0, 206, .inl (fun _ => 0)))]) (vp_Si (fun r => r = (-3))) 0 0 (fun _ => False) := by
  refine gz_metR (cc := cX11_down) (maxL := 3) (ret := (some .int)) (by decide) rfl (Nat.le_of_ble_eq_true rfl) ?_
  intro p_ e_ s_ m below_ meth_ c_ ls hx hb hr hml hts hown hlocks hP hE hl
  have hl : lv_has ls 3 [(0, .ref h0), (1, .int a), (2, .int b)] := hl
  refine lv_aload_n hx hb dX11_down_0 rfl (lv_at hl 0 rfl) ?_
  refine lv_iload_n hx hb dX11_down_1 rfl (lv_at hl 1 rfl) ?_
  refine vp_callSi (W.runV (As := [.int a]) (rest := []) ⟨hx, hb, hml, hown, hts⟩ (m_isPerson l G k sa h0 v a) (cwV 1 hts g_m_down_305_m_isPerson rfl rfl rfl (by decide +kernel) ⟨(Nat.le_of_ble_eq_true rfl), (Nat.le_of_ble_eq_true rfl)⟩) ⟨gR.bl, va_recv hE.K hP (ci := 11) (q0 := 0) rfl rfl, (gR.pre (wc := [(h0, .inr (11, [.ref (v 0), .int 0, .int 0, .ref (v 3), .ref (v 4), .ref (v 5), .ref (v 6), .ref (v 7), .int 0, .int 0, .int 0, .int 0, .int 0, .int 0, .int 0, .ref (v 15), .int 0, .ref (v 17), .int 0, .ref (v 19), .ref (v 20), .int (-1), .int 0, .ref (v 23), .int (-1), .int (-1), .int (-1), .int 0, .int (-1), .int 0, .ref (v 30), .int 0, .ref (v 32), .int 0, .int 0, .ref (v 35), .ref (v 36), .ref (v 37), .ref (v 38), .long 0, .ref (v 40), .ref (v 41), .ref (v 42), .ref (v 43)])), (v 20, .inl (k 0, 206, .inl (fun _ => 0)))]) hE hP [0, 1] rfl)⟩ rfl rfl hl.1 rfl (lv_room (Nat.le_of_ble_eq_true rfl)) dX11_down_2 ⟨(Nat.le_of_ble_eq_true rfl), (Nat.le_of_ble_eq_true rfl)⟩) (fun r_1 hr_1 => ?_)
  obtain rfl : r_1 = 0 := hr_1
  refine lv_if_eq (tgt := 27) hx hb dX11_down_5 (by decide) (fun _ => ?_) (fun h9 => absurd h9 (by decide))
  refine lv_bipush (v := (-3)) hx hb dX11_down_27 (by decide) ?_
  exact W.iret (v := (-3)) hx hb hr (fun t ht hW => ⟨(-3), rfl, rfl, ht⟩) (fun _ h9 => absurd h9 List.not_mem_nil) dX11_down_29
set_option maxHeartbeats 4000000 in
set_option maxRecDepth 100000 in
theorem m_gone (l : Launch) (G : va_G) (k : Nat → ClassId) (sa : Nat → Nat) (h0 : Nat) (v : Nat → Nat) (a : Int32) (b : Int32) (c1 : Int32) : Met l yX11_gone vs_m_gone ({ frames := 2, cells := 0, slots := 0, locals := 42 } : Room) (gR G k sa [.ref h0, .int a, .int b, .int c1] [(h0, .inr (11, [.ref (v 0), .int 0, .int 0, .ref (v 3), .ref (v 4), .ref (v 5), .ref (v 6), .ref (v 7), .int 0, .int 0, .int 0, .int 0, .int 0, .int 0, .int 0, .ref (v 15), .int 0, .ref (v 17), .int 0, .ref (v 19), .ref (v 20), .int (-1), .int 0, .ref (v 23), .int (-1), .int (-1), .int (-1), .int 0, .int (-1), .int 0, .ref (v 30), .int 0, .ref (v 32), .int 0, .int 0, .ref (v 35), .ref (v 36), .ref (v 37), .ref (v 38), .long 0, .ref (v 40), .ref (v 41), .ref (v 42), .ref (v 43)])), (v 20, .inl (k 0, 206, .inl (fun _ => 0)))]) (vp_Si (fun r => r = (-3))) 0 0 (fun _ => False) := by
  refine gz_metR (cc := cX11_gone) (maxL := 4) (ret := (some .int)) (by decide) rfl (Nat.le_of_ble_eq_true rfl) ?_
  intro p_ e_ s_ m below_ meth_ c_ ls hx hb hr hml hts hown hlocks hP hE hl
  have hl : lv_has ls 4 [(0, .ref h0), (1, .int a), (2, .int b), (3, .int c1)] := hl
  refine lv_aload_n hx hb dX11_gone_0 rfl (lv_at hl 0 rfl) ?_
  refine lv_iload_n hx hb dX11_gone_1 rfl (lv_at hl 1 rfl) ?_
  refine vp_callSi (W.runV (As := [.int a]) (rest := []) ⟨hx, hb, hml, hown, hts⟩ (m_isOnLand l G k sa h0 v a) (cwV 1 hts g_m_gone_393_m_isOnLand rfl rfl rfl (by decide +kernel) ⟨(Nat.le_of_ble_eq_true rfl), (Nat.le_of_ble_eq_true rfl)⟩) ⟨gR.bl, va_recv hE.K hP (ci := 11) (q0 := 0) rfl rfl, (gR.pre (wc := [(h0, .inr (11, [.ref (v 0), .int 0, .int 0, .ref (v 3), .ref (v 4), .ref (v 5), .ref (v 6), .ref (v 7), .int 0, .int 0, .int 0, .int 0, .int 0, .int 0, .int 0, .ref (v 15), .int 0, .ref (v 17), .int 0, .ref (v 19), .ref (v 20), .int (-1), .int 0, .ref (v 23), .int (-1), .int (-1), .int (-1), .int 0, .int (-1), .int 0, .ref (v 30), .int 0, .ref (v 32), .int 0, .int 0, .ref (v 35), .ref (v 36), .ref (v 37), .ref (v 38), .long 0, .ref (v 40), .ref (v 41), .ref (v 42), .ref (v 43)])), (v 20, .inl (k 0, 206, .inl (fun _ => 0)))]) hE hP [0, 1] rfl)⟩ rfl rfl hl.1 rfl (lv_room (Nat.le_of_ble_eq_true rfl)) dX11_gone_2 ⟨(Nat.le_of_ble_eq_true rfl), (Nat.le_of_ble_eq_true rfl)⟩) (fun r_1 hr_1 => ?_)
  obtain rfl : r_1 = 0 := hr_1
  refine lv_if_eq (tgt := 30) hx hb dX11_gone_5 (by decide) (fun _ => ?_) (fun h9 => absurd h9 (by decide))
  refine lv_bipush (v := (-3)) hx hb dX11_gone_30 (by decide) ?_
  exact W.iret (v := (-3)) hx hb hr (fun t ht hW => ⟨(-3), rfl, rfl, ht⟩) (fun _ h9 => absurd h9 List.not_mem_nil) dX11_gone_32
set_option maxHeartbeats 4000000 in
set_option maxRecDepth 100000 in
theorem m_timing (l : Launch) (G : va_G) (k : Nat → ClassId) (sa : Nat → Nat) (h0 : Nat) (v : Nat → Nat) (a : Int32) (b : Int32) : Met l yX11_timing vs_m_timing ({ frames := 2, cells := 0, slots := 0, locals := 42 } : Room) (gR G k sa [.ref h0, .int a, .int b] [(h0, .inr (11, [.ref (v 0), .int 0, .int 0, .ref (v 3), .ref (v 4), .ref (v 5), .ref (v 6), .ref (v 7), .int 0, .int 0, .int 0, .int 0, .int 0, .int 0, .int 0, .ref (v 15), .int 0, .ref (v 17), .int 0, .ref (v 19), .ref (v 20), .int (-1), .int 0, .ref (v 23), .int (-1), .int (-1), .int (-1), .int 0, .int (-1), .int 0, .ref (v 30), .int 0, .ref (v 32), .int 0, .int 0, .ref (v 35), .ref (v 36), .ref (v 37), .ref (v 38), .long 0, .ref (v 40), .ref (v 41), .ref (v 42), .ref (v 43)])), (v 20, .inl (k 0, 206, .inl (fun _ => 0)))]) (vp_Si (fun r => r = (-1))) 0 0 (fun _ => False) := by
  refine gz_metR (cc := cX11_timing) (maxL := 4) (ret := (some .int)) (by decide) rfl (Nat.le_of_ble_eq_true rfl) ?_
  intro p_ e_ s_ m below_ meth_ c_ ls hx hb hr hml hts hown hlocks hP hE hl
  have hl : lv_has ls 4 [(0, .ref h0), (1, .int a), (2, .int b)] := hl
  refine lv_aload_n hx hb dX11_timing_0 rfl (lv_at hl 0 rfl) ?_
  refine lv_iload_n hx hb dX11_timing_1 rfl (lv_at hl 1 rfl) ?_
  refine vp_callSi (W.runV (As := [.int a]) (rest := []) ⟨hx, hb, hml, hown, hts⟩ (m_isOnLand l G k sa h0 v a) (cwV 1 hts g_m_timing_393_m_isOnLand rfl rfl rfl (by decide +kernel) ⟨(Nat.le_of_ble_eq_true rfl), (Nat.le_of_ble_eq_true rfl)⟩) ⟨gR.bl, va_recv hE.K hP (ci := 11) (q0 := 0) rfl rfl, (gR.pre (wc := [(h0, .inr (11, [.ref (v 0), .int 0, .int 0, .ref (v 3), .ref (v 4), .ref (v 5), .ref (v 6), .ref (v 7), .int 0, .int 0, .int 0, .int 0, .int 0, .int 0, .int 0, .ref (v 15), .int 0, .ref (v 17), .int 0, .ref (v 19), .ref (v 20), .int (-1), .int 0, .ref (v 23), .int (-1), .int (-1), .int (-1), .int 0, .int (-1), .int 0, .ref (v 30), .int 0, .ref (v 32), .int 0, .int 0, .ref (v 35), .ref (v 36), .ref (v 37), .ref (v 38), .long 0, .ref (v 40), .ref (v 41), .ref (v 42), .ref (v 43)])), (v 20, .inl (k 0, 206, .inl (fun _ => 0)))]) hE hP [0, 1] rfl)⟩ rfl rfl hl.1 rfl (lv_room (Nat.le_of_ble_eq_true rfl)) dX11_timing_2 ⟨(Nat.le_of_ble_eq_true rfl), (Nat.le_of_ble_eq_true rfl)⟩) (fun r_1 hr_1 => ?_)
  obtain rfl : r_1 = 0 := hr_1
  refine lv_if_eq (tgt := 16) hx hb dX11_timing_5 (by decide) (fun _ => ?_) (fun h9 => absurd h9 (by decide))
  refine lv_iconst (v := (-1)) hx hb dX11_timing_16 (by decide) ?_
  exact W.iret (v := (-1)) hx hb hr (fun t ht hW => ⟨(-1), rfl, rfl, ht⟩) (fun _ h9 => absurd h9 List.not_mem_nil) dX11_timing_17
set_option maxHeartbeats 4000000 in
set_option maxRecDepth 100000 in
theorem m_had (l : Launch) (G : va_G) (k : Nat → ClassId) (sa : Nat → Nat) (h0 : Nat) (v : Nat → Nat) (a : Int32) (b : Int32) (c1 : Int32) : Met l yX11_had vs_m_had ({ frames := 2, cells := 0, slots := 0, locals := 42 } : Room) (gR G k sa [.ref h0, .int a, .int b, .int c1] [(h0, .inr (11, [.ref (v 0), .int 0, .int 0, .ref (v 3), .ref (v 4), .ref (v 5), .ref (v 6), .ref (v 7), .int 0, .int 0, .int 0, .int 0, .int 0, .int 0, .int 0, .ref (v 15), .int 0, .ref (v 17), .int 0, .ref (v 19), .ref (v 20), .int (-1), .int 0, .ref (v 23), .int (-1), .int (-1), .int (-1), .int 0, .int (-1), .int 0, .ref (v 30), .int 0, .ref (v 32), .int 0, .int 0, .ref (v 35), .ref (v 36), .ref (v 37), .ref (v 38), .long 0, .ref (v 40), .ref (v 41), .ref (v 42), .ref (v 43)])), (v 20, .inl (k 0, 206, .inl (fun _ => 0)))]) (vp_Si (fun r => r = (-1))) 0 0 (fun _ => False) := by
  refine gz_metR (cc := cX11_had) (maxL := 7) (ret := (some .int)) (by decide) rfl (Nat.le_of_ble_eq_true rfl) ?_
  intro p_ e_ s_ m below_ meth_ c_ ls hx hb hr hml hts hown hlocks hP hE hl
  have hl : lv_has ls 7 [(0, .ref h0), (1, .int a), (2, .int b), (3, .int c1)] := hl
  refine lv_aload_n hx hb dX11_had_0 rfl (lv_at hl 0 rfl) ?_
  refine lv_iload_n hx hb dX11_had_1 rfl (lv_at hl 1 rfl) ?_
  refine vp_callSi (W.runV (As := [.int a]) (rest := []) ⟨hx, hb, hml, hown, hts⟩ (m_isOnLand l G k sa h0 v a) (cwV 1 hts g_m_had_393_m_isOnLand rfl rfl rfl (by decide +kernel) ⟨(Nat.le_of_ble_eq_true rfl), (Nat.le_of_ble_eq_true rfl)⟩) ⟨gR.bl, va_recv hE.K hP (ci := 11) (q0 := 0) rfl rfl, (gR.pre (wc := [(h0, .inr (11, [.ref (v 0), .int 0, .int 0, .ref (v 3), .ref (v 4), .ref (v 5), .ref (v 6), .ref (v 7), .int 0, .int 0, .int 0, .int 0, .int 0, .int 0, .int 0, .ref (v 15), .int 0, .ref (v 17), .int 0, .ref (v 19), .ref (v 20), .int (-1), .int 0, .ref (v 23), .int (-1), .int (-1), .int (-1), .int 0, .int (-1), .int 0, .ref (v 30), .int 0, .ref (v 32), .int 0, .int 0, .ref (v 35), .ref (v 36), .ref (v 37), .ref (v 38), .long 0, .ref (v 40), .ref (v 41), .ref (v 42), .ref (v 43)])), (v 20, .inl (k 0, 206, .inl (fun _ => 0)))]) hE hP [0, 1] rfl)⟩ rfl rfl hl.1 rfl (lv_room (Nat.le_of_ble_eq_true rfl)) dX11_had_2 ⟨(Nat.le_of_ble_eq_true rfl), (Nat.le_of_ble_eq_true rfl)⟩) (fun r_1 hr_1 => ?_)
  obtain rfl : r_1 = 0 := hr_1
  refine lv_if_eq (tgt := 26) hx hb dX11_had_5 (by decide) (fun _ => ?_) (fun h9 => absurd h9 (by decide))
  refine lv_iconst (v := (-1)) hx hb dX11_had_26 (by decide) ?_
  exact W.iret (v := (-1)) hx hb hr (fun t ht hW => ⟨(-1), rfl, rfl, ht⟩) (fun _ h9 => absurd h9 List.not_mem_nil) dX11_had_27
set_option maxHeartbeats 4000000 in
set_option maxRecDepth 100000 in
theorem m_tangle (l : Launch) (G : va_G) (k : Nat → ClassId) (sa : Nat → Nat) (h0 : Nat) (v : Nat → Nat) (a : Int32) : Met l yX11_tangle vs_m_tangle ({ frames := 1, cells := 0, slots := 0, locals := 20 } : Room) (gR G k sa [.ref h0, .int a] [(h0, .inr (11, [.ref (v 0), .int 0, .int 0, .ref (v 3), .ref (v 4), .ref (v 5), .ref (v 6), .ref (v 7), .int 0, .int 0, .int 0, .int 0, .int 0, .int 0, .int 0, .ref (v 15), .int 0, .ref (v 17), .int 0, .ref (v 19), .ref (v 20), .int (-1), .int 0, .ref (v 23), .int (-1), .int (-1), .int (-1), .int 0, .int (-1), .int 0, .ref (v 30), .int 0, .ref (v 32), .int 0, .int 0, .ref (v 35), .ref (v 36), .ref (v 37), .ref (v 38), .long 0, .ref (v 40), .ref (v 41), .ref (v 42), .ref (v 43)])), (v 20, .inl (k 0, 206, .inl (fun _ => 0)))]) (vp_Si (fun r => r = (-1))) 0 0 (fun _ => False) := by
  refine gz_metR (cc := cX11_tangle) (maxL := 4) (ret := (some .int)) (by decide) rfl (Nat.le_of_ble_eq_true rfl) ?_
  intro p_ e_ s_ m below_ meth_ c_ ls hx hb hr hml hts hown hlocks hP hE hl
  have hl : lv_has ls 4 [(0, .ref h0), (1, .int a)] := hl
  refine lv_aload_n hx hb dX11_tangle_0 rfl (lv_at hl 0 rfl) ?_
  refine vp_callSi (W.runV (As := []) (rest := []) ⟨hx, hb, hml, hown, hts⟩ (m_isCountry l G k sa h0 v) (cwV 0 hts g_m_tangle_299_m_isCountry rfl rfl rfl (by decide +kernel) ⟨(Nat.le_of_ble_eq_true rfl), (Nat.le_of_ble_eq_true rfl)⟩) ⟨gR.bl, va_recv hE.K hP (ci := 11) (q0 := 0) rfl rfl, (gR.pre (wc := [(h0, .inr (11, [.ref (v 0), .int 0, .int 0, .ref (v 3), .ref (v 4), .ref (v 5), .ref (v 6), .ref (v 7), .int 0, .int 0, .int 0, .int 0, .int 0, .int 0, .int 0, .ref (v 15), .int 0, .ref (v 17), .int 0, .ref (v 19), .ref (v 20), .int (-1), .int 0, .ref (v 23), .int (-1), .int (-1), .int (-1), .int 0, .int (-1), .int 0, .ref (v 30), .int 0, .ref (v 32), .int 0, .int 0, .ref (v 35), .ref (v 36), .ref (v 37), .ref (v 38), .long 0, .ref (v 40), .ref (v 41), .ref (v 42), .ref (v 43)])), (v 20, .inl (k 0, 206, .inl (fun _ => 0)))]) hE hP [0, 1] rfl)⟩ rfl rfl hl.1 rfl (lv_room (Nat.le_of_ble_eq_true rfl)) dX11_tangle_1 ⟨(Nat.le_of_ble_eq_true rfl), (Nat.le_of_ble_eq_true rfl)⟩) (fun r_1 hr_1 => ?_)
  obtain rfl : r_1 = 0 := hr_1
  refine lv_if_eq (tgt := 17) hx hb dX11_tangle_4 (by decide) (fun _ => ?_) (fun h9 => absurd h9 (by decide))
  refine lv_iconst (v := (-1)) hx hb dX11_tangle_17 (by decide) ?_
  exact W.iret (v := (-1)) hx hb hr (fun t ht hW => ⟨(-1), rfl, rfl, ht⟩) (fun _ h9 => absurd h9 List.not_mem_nil) dX11_tangle_18
set_option maxHeartbeats 4000000 in
set_option maxRecDepth 100000 in
theorem m_ring (l : Launch) (G : va_G) (k : Nat → ClassId) (sa : Nat → Nat) (h0 : Nat) (v : Nat → Nat) (a : Int32) : Met l yX11_ring vs_m_ring ({ frames := 1, cells := 0, slots := 0, locals := 20 } : Room) (gR G k sa [.ref h0, .int a] [(h0, .inr (11, [.ref (v 0), .int 0, .int 0, .ref (v 3), .ref (v 4), .ref (v 5), .ref (v 6), .ref (v 7), .int 0, .int 0, .int 0, .int 0, .int 0, .int 0, .int 0, .ref (v 15), .int 0, .ref (v 17), .int 0, .ref (v 19), .ref (v 20), .int (-1), .int 0, .ref (v 23), .int (-1), .int (-1), .int (-1), .int 0, .int (-1), .int 0, .ref (v 30), .int 0, .ref (v 32), .int 0, .int 0, .ref (v 35), .ref (v 36), .ref (v 37), .ref (v 38), .long 0, .ref (v 40), .ref (v 41), .ref (v 42), .ref (v 43)])), (v 20, .inl (k 0, 206, .inl (fun _ => 0)))]) (vp_Si (fun r => r = (-1))) 0 0 (fun _ => False) := by
  refine gz_metR (cc := cX11_ring) (maxL := 4) (ret := (some .int)) (by decide) rfl (Nat.le_of_ble_eq_true rfl) ?_
  intro p_ e_ s_ m below_ meth_ c_ ls hx hb hr hml hts hown hlocks hP hE hl
  have hl : lv_has ls 4 [(0, .ref h0), (1, .int a)] := hl
  refine lv_aload_n hx hb dX11_ring_0 rfl (lv_at hl 0 rfl) ?_
  refine vp_callSi (W.runV (As := []) (rest := []) ⟨hx, hb, hml, hown, hts⟩ (m_isCountry l G k sa h0 v) (cwV 0 hts g_m_ring_299_m_isCountry rfl rfl rfl (by decide +kernel) ⟨(Nat.le_of_ble_eq_true rfl), (Nat.le_of_ble_eq_true rfl)⟩) ⟨gR.bl, va_recv hE.K hP (ci := 11) (q0 := 0) rfl rfl, (gR.pre (wc := [(h0, .inr (11, [.ref (v 0), .int 0, .int 0, .ref (v 3), .ref (v 4), .ref (v 5), .ref (v 6), .ref (v 7), .int 0, .int 0, .int 0, .int 0, .int 0, .int 0, .int 0, .ref (v 15), .int 0, .ref (v 17), .int 0, .ref (v 19), .ref (v 20), .int (-1), .int 0, .ref (v 23), .int (-1), .int (-1), .int (-1), .int 0, .int (-1), .int 0, .ref (v 30), .int 0, .ref (v 32), .int 0, .int 0, .ref (v 35), .ref (v 36), .ref (v 37), .ref (v 38), .long 0, .ref (v 40), .ref (v 41), .ref (v 42), .ref (v 43)])), (v 20, .inl (k 0, 206, .inl (fun _ => 0)))]) hE hP [0, 1] rfl)⟩ rfl rfl hl.1 rfl (lv_room (Nat.le_of_ble_eq_true rfl)) dX11_ring_1 ⟨(Nat.le_of_ble_eq_true rfl), (Nat.le_of_ble_eq_true rfl)⟩) (fun r_1 hr_1 => ?_)
  obtain rfl : r_1 = 0 := hr_1
  refine lv_if_eq (tgt := 17) hx hb dX11_ring_4 (by decide) (fun _ => ?_) (fun h9 => absurd h9 (by decide))
  refine lv_iconst (v := (-1)) hx hb dX11_ring_17 (by decide) ?_
  exact W.iret (v := (-1)) hx hb hr (fun t ht hW => ⟨(-1), rfl, rfl, ht⟩) (fun _ h9 => absurd h9 List.not_mem_nil) dX11_ring_18
set_option maxHeartbeats 4000000 in
set_option maxRecDepth 100000 in
theorem m_flock (l : Launch) (G : va_G) (k : Nat → ClassId) (sa : Nat → Nat) (h0 : Nat) (v : Nat → Nat) (a : Int32) (b : Int32) : Met l yX11_flock vs_m_flock ({ frames := 1, cells := 0, slots := 0, locals := 20 } : Room) (gR G k sa [.ref h0, .int a, .int b] [(h0, .inr (11, [.ref (v 0), .int 0, .int 0, .ref (v 3), .ref (v 4), .ref (v 5), .ref (v 6), .ref (v 7), .int 0, .int 0, .int 0, .int 0, .int 0, .int 0, .int 0, .ref (v 15), .int 0, .ref (v 17), .int 0, .ref (v 19), .ref (v 20), .int (-1), .int 0, .ref (v 23), .int (-1), .int (-1), .int (-1), .int 0, .int (-1), .int 0, .ref (v 30), .int 0, .ref (v 32), .int 0, .int 0, .ref (v 35), .ref (v 36), .ref (v 37), .ref (v 38), .long 0, .ref (v 40), .ref (v 41), .ref (v 42), .ref (v 43)])), (v 20, .inl (k 0, 206, .inl (fun _ => 0)))]) (vp_Si (fun r => r = (-1))) 0 0 (fun _ => False) := by
  refine gz_metR (cc := cX11_flock) (maxL := 11) (ret := (some .int)) (by decide) rfl (Nat.le_of_ble_eq_true rfl) ?_
  intro p_ e_ s_ m below_ meth_ c_ ls hx hb hr hml hts hown hlocks hP hE hl
  have hl : lv_has ls 11 [(0, .ref h0), (1, .int a), (2, .int b)] := hl
  refine lv_aload_n hx hb dX11_flock_0 rfl (lv_at hl 0 rfl) ?_
  refine vp_callSi (W.runV (As := []) (rest := []) ⟨hx, hb, hml, hown, hts⟩ (m_isCountry l G k sa h0 v) (cwV 0 hts g_m_flock_299_m_isCountry rfl rfl rfl (by decide +kernel) ⟨(Nat.le_of_ble_eq_true rfl), (Nat.le_of_ble_eq_true rfl)⟩) ⟨gR.bl, va_recv hE.K hP (ci := 11) (q0 := 0) rfl rfl, (gR.pre (wc := [(h0, .inr (11, [.ref (v 0), .int 0, .int 0, .ref (v 3), .ref (v 4), .ref (v 5), .ref (v 6), .ref (v 7), .int 0, .int 0, .int 0, .int 0, .int 0, .int 0, .int 0, .ref (v 15), .int 0, .ref (v 17), .int 0, .ref (v 19), .ref (v 20), .int (-1), .int 0, .ref (v 23), .int (-1), .int (-1), .int (-1), .int 0, .int (-1), .int 0, .ref (v 30), .int 0, .ref (v 32), .int 0, .int 0, .ref (v 35), .ref (v 36), .ref (v 37), .ref (v 38), .long 0, .ref (v 40), .ref (v 41), .ref (v 42), .ref (v 43)])), (v 20, .inl (k 0, 206, .inl (fun _ => 0)))]) hE hP [0, 1] rfl)⟩ rfl rfl hl.1 rfl (lv_room (Nat.le_of_ble_eq_true rfl)) dX11_flock_1 ⟨(Nat.le_of_ble_eq_true rfl), (Nat.le_of_ble_eq_true rfl)⟩) (fun r_1 hr_1 => ?_)
  obtain rfl : r_1 = 0 := hr_1
  refine lv_if_eq (tgt := 31) hx hb dX11_flock_4 (by decide) (fun _ => ?_) (fun h9 => absurd h9 (by decide))
  refine lv_iconst (v := (-1)) hx hb dX11_flock_31 (by decide) ?_
  exact W.iret (v := (-1)) hx hb hr (fun t ht hW => ⟨(-1), rfl, rfl, ht⟩) (fun _ h9 => absurd h9 List.not_mem_nil) dX11_flock_32
set_option maxHeartbeats 4000000 in
set_option maxRecDepth 100000 in
theorem m_bestGate (l : Launch) (G : va_G) (k : Nat → ClassId) (sa : Nat → Nat) (h0 : Nat) (v : Nat → Nat) (a : Int32) (b : Int32) : Met l yX11_bestGate vs_m_bestGate ({ frames := 1, cells := 0, slots := 0, locals := 20 } : Room) (gR G k sa [.ref h0, .int a, .int b] [(h0, .inr (11, [.ref (v 0), .int 0, .int 0, .ref (v 3), .ref (v 4), .ref (v 5), .ref (v 6), .ref (v 7), .int 0, .int 0, .int 0, .int 0, .int 0, .int 0, .int 0, .ref (v 15), .int 0, .ref (v 17), .int 0, .ref (v 19), .ref (v 20), .int (-1), .int 0, .ref (v 23), .int (-1), .int (-1), .int (-1), .int 0, .int (-1), .int 0, .ref (v 30), .int 0, .ref (v 32), .int 0, .int 0, .ref (v 35), .ref (v 36), .ref (v 37), .ref (v 38), .long 0, .ref (v 40), .ref (v 41), .ref (v 42), .ref (v 43)])), (v 20, .inl (k 0, 206, .inl (fun _ => 0)))]) (vp_Si (fun r => r = (-2))) 0 0 (fun _ => False) := by
  refine gz_metR (cc := cX11_bestGate) (maxL := 7) (ret := (some .int)) (by decide) rfl (Nat.le_of_ble_eq_true rfl) ?_
  intro p_ e_ s_ m below_ meth_ c_ ls hx hb hr hml hts hown hlocks hP hE hl
  have hl : lv_has ls 7 [(0, .ref h0), (1, .int a), (2, .int b)] := hl
  refine lv_aload_n hx hb dX11_bestGate_0 rfl (lv_at hl 0 rfl) ?_
  refine vp_callSi (W.runV (As := []) (rest := []) ⟨hx, hb, hml, hown, hts⟩ (m_isCountry l G k sa h0 v) (cwV 0 hts g_m_bestGate_299_m_isCountry rfl rfl rfl (by decide +kernel) ⟨(Nat.le_of_ble_eq_true rfl), (Nat.le_of_ble_eq_true rfl)⟩) ⟨gR.bl, va_recv hE.K hP (ci := 11) (q0 := 0) rfl rfl, (gR.pre (wc := [(h0, .inr (11, [.ref (v 0), .int 0, .int 0, .ref (v 3), .ref (v 4), .ref (v 5), .ref (v 6), .ref (v 7), .int 0, .int 0, .int 0, .int 0, .int 0, .int 0, .int 0, .ref (v 15), .int 0, .ref (v 17), .int 0, .ref (v 19), .ref (v 20), .int (-1), .int 0, .ref (v 23), .int (-1), .int (-1), .int (-1), .int 0, .int (-1), .int 0, .ref (v 30), .int 0, .ref (v 32), .int 0, .int 0, .ref (v 35), .ref (v 36), .ref (v 37), .ref (v 38), .long 0, .ref (v 40), .ref (v 41), .ref (v 42), .ref (v 43)])), (v 20, .inl (k 0, 206, .inl (fun _ => 0)))]) hE hP [0, 1] rfl)⟩ rfl rfl hl.1 rfl (lv_room (Nat.le_of_ble_eq_true rfl)) dX11_bestGate_1 ⟨(Nat.le_of_ble_eq_true rfl), (Nat.le_of_ble_eq_true rfl)⟩) (fun r_1 hr_1 => ?_)
  obtain rfl : r_1 = 0 := hr_1
  refine lv_if_eq (tgt := 29) hx hb dX11_bestGate_4 (by decide) (fun _ => ?_) (fun h9 => absurd h9 (by decide))
  refine lv_bipush (v := (-2)) hx hb dX11_bestGate_29 (by decide) ?_
  exact W.iret (v := (-2)) hx hb hr (fun t ht hW => ⟨(-2), rfl, rfl, ht⟩) (fun _ h9 => absurd h9 List.not_mem_nil) dX11_bestGate_31
set_option maxHeartbeats 4000000 in
set_option maxRecDepth 100000 in
theorem m_bestWinds (l : Launch) (G : va_G) (k : Nat → ClassId) (sa : Nat → Nat) (h0 : Nat) (v : Nat → Nat) (a : Int32) (b : Int32) : Met l yX11_bestWinds vs_m_bestWinds ({ frames := 1, cells := 0, slots := 0, locals := 20 } : Room) (gR G k sa [.ref h0, .int a, .int b] [(h0, .inr (11, [.ref (v 0), .int 0, .int 0, .ref (v 3), .ref (v 4), .ref (v 5), .ref (v 6), .ref (v 7), .int 0, .int 0, .int 0, .int 0, .int 0, .int 0, .int 0, .ref (v 15), .int 0, .ref (v 17), .int 0, .ref (v 19), .ref (v 20), .int (-1), .int 0, .ref (v 23), .int (-1), .int (-1), .int (-1), .int 0, .int (-1), .int 0, .ref (v 30), .int 0, .ref (v 32), .int 0, .int 0, .ref (v 35), .ref (v 36), .ref (v 37), .ref (v 38), .long 0, .ref (v 40), .ref (v 41), .ref (v 42), .ref (v 43)])), (v 20, .inl (k 0, 206, .inl (fun _ => 0)))]) (vp_Si (fun r => r = (-2))) 0 0 (fun _ => False) := by
  refine gz_metR (cc := cX11_bestWinds) (maxL := 9) (ret := (some .int)) (by decide) rfl (Nat.le_of_ble_eq_true rfl) ?_
  intro p_ e_ s_ m below_ meth_ c_ ls hx hb hr hml hts hown hlocks hP hE hl
  have hl : lv_has ls 9 [(0, .ref h0), (1, .int a), (2, .int b)] := hl
  refine lv_aload_n hx hb dX11_bestWinds_0 rfl (lv_at hl 0 rfl) ?_
  refine vp_callSi (W.runV (As := []) (rest := []) ⟨hx, hb, hml, hown, hts⟩ (m_isCountry l G k sa h0 v) (cwV 0 hts g_m_bestWinds_299_m_isCountry rfl rfl rfl (by decide +kernel) ⟨(Nat.le_of_ble_eq_true rfl), (Nat.le_of_ble_eq_true rfl)⟩) ⟨gR.bl, va_recv hE.K hP (ci := 11) (q0 := 0) rfl rfl, (gR.pre (wc := [(h0, .inr (11, [.ref (v 0), .int 0, .int 0, .ref (v 3), .ref (v 4), .ref (v 5), .ref (v 6), .ref (v 7), .int 0, .int 0, .int 0, .int 0, .int 0, .int 0, .int 0, .ref (v 15), .int 0, .ref (v 17), .int 0, .ref (v 19), .ref (v 20), .int (-1), .int 0, .ref (v 23), .int (-1), .int (-1), .int (-1), .int 0, .int (-1), .int 0, .ref (v 30), .int 0, .ref (v 32), .int 0, .int 0, .ref (v 35), .ref (v 36), .ref (v 37), .ref (v 38), .long 0, .ref (v 40), .ref (v 41), .ref (v 42), .ref (v 43)])), (v 20, .inl (k 0, 206, .inl (fun _ => 0)))]) hE hP [0, 1] rfl)⟩ rfl rfl hl.1 rfl (lv_room (Nat.le_of_ble_eq_true rfl)) dX11_bestWinds_1 ⟨(Nat.le_of_ble_eq_true rfl), (Nat.le_of_ble_eq_true rfl)⟩) (fun r_1 hr_1 => ?_)
  obtain rfl : r_1 = 0 := hr_1
  refine lv_if_eq (tgt := 31) hx hb dX11_bestWinds_4 (by decide) (fun _ => ?_) (fun h9 => absurd h9 (by decide))
  refine lv_bipush (v := (-2)) hx hb dX11_bestWinds_31 (by decide) ?_
  exact W.iret (v := (-2)) hx hb hr (fun t ht hW => ⟨(-2), rfl, rfl, ht⟩) (fun _ h9 => absurd h9 List.not_mem_nil) dX11_bestWinds_33
set_option maxHeartbeats 4000000 in
set_option maxRecDepth 100000 in
theorem m_rests (l : Launch) (G : va_G) (k : Nat → ClassId) (sa : Nat → Nat) (h0 : Nat) (v : Nat → Nat) (a : Int32) (b : Int32) (c1 : Int32) (d1 : Int32) : Met l yX11_rests vs_m_rests ({ frames := 2, cells := 0, slots := 0, locals := 42 } : Room) (gR G k sa [.ref h0, .int a, .int b, .int c1, .int d1] [(h0, .inr (11, [.ref (v 0), .int 0, .int 0, .ref (v 3), .ref (v 4), .ref (v 5), .ref (v 6), .ref (v 7), .int 0, .int 0, .int 0, .int 0, .int 0, .int 0, .int 0, .ref (v 15), .int 0, .ref (v 17), .int 0, .ref (v 19), .ref (v 20), .int (-1), .int 0, .ref (v 23), .int (-1), .int (-1), .int (-1), .int 0, .int (-1), .int 0, .ref (v 30), .int 0, .ref (v 32), .int 0, .int 0, .ref (v 35), .ref (v 36), .ref (v 37), .ref (v 38), .long 0, .ref (v 40), .ref (v 41), .ref (v 42), .ref (v 43)])), (v 20, .inl (k 0, 206, .inl (fun _ => 0)))]) (vp_Si (fun r => r = (-1))) 0 0 (fun _ => False) := by
  refine gz_metR (cc := cX11_rests) (maxL := 8) (ret := (some .int)) (by decide) rfl (Nat.le_of_ble_eq_true rfl) ?_
  intro p_ e_ s_ m below_ meth_ c_ ls hx hb hr hml hts hown hlocks hP hE hl
  have hl : lv_has ls 8 [(0, .ref h0), (1, .int a), (2, .int b), (3, .int c1), (4, .int d1)] := hl
  refine lv_aload_n hx hb dX11_rests_0 rfl (lv_at hl 0 rfl) ?_
  refine lv_iload_n hx hb dX11_rests_1 rfl (lv_at hl 1 rfl) ?_
  refine vp_callSi (W.runV (As := [.int a]) (rest := []) ⟨hx, hb, hml, hown, hts⟩ (m_isOnLand l G k sa h0 v a) (cwV 1 hts g_m_rests_393_m_isOnLand rfl rfl rfl (by decide +kernel) ⟨(Nat.le_of_ble_eq_true rfl), (Nat.le_of_ble_eq_true rfl)⟩) ⟨gR.bl, va_recv hE.K hP (ci := 11) (q0 := 0) rfl rfl, (gR.pre (wc := [(h0, .inr (11, [.ref (v 0), .int 0, .int 0, .ref (v 3), .ref (v 4), .ref (v 5), .ref (v 6), .ref (v 7), .int 0, .int 0, .int 0, .int 0, .int 0, .int 0, .int 0, .ref (v 15), .int 0, .ref (v 17), .int 0, .ref (v 19), .ref (v 20), .int (-1), .int 0, .ref (v 23), .int (-1), .int (-1), .int (-1), .int 0, .int (-1), .int 0, .ref (v 30), .int 0, .ref (v 32), .int 0, .int 0, .ref (v 35), .ref (v 36), .ref (v 37), .ref (v 38), .long 0, .ref (v 40), .ref (v 41), .ref (v 42), .ref (v 43)])), (v 20, .inl (k 0, 206, .inl (fun _ => 0)))]) hE hP [0, 1] rfl)⟩ rfl rfl hl.1 rfl (lv_room (Nat.le_of_ble_eq_true rfl)) dX11_rests_2 ⟨(Nat.le_of_ble_eq_true rfl), (Nat.le_of_ble_eq_true rfl)⟩) (fun r_1 hr_1 => ?_)
  obtain rfl : r_1 = 0 := hr_1
  refine lv_if_eq (tgt := 46) hx hb dX11_rests_5 (by decide) (fun _ => ?_) (fun h9 => absurd h9 (by decide))
  refine lv_iconst (v := (-1)) hx hb dX11_rests_46 (by decide) ?_
  exact W.iret (v := (-1)) hx hb hr (fun t ht hW => ⟨(-1), rfl, rfl, ht⟩) (fun _ h9 => absurd h9 List.not_mem_nil) dX11_rests_47
set_option maxHeartbeats 4000000 in
set_option maxRecDepth 100000 in
theorem m_pence (l : Launch) (G : va_G) (k : Nat → ClassId) (sa : Nat → Nat) (h0 : Nat) (v : Nat → Nat) (a : Int32) (b : Int32) : Met l yX11_pence vs_m_pence ({ frames := 1, cells := 0, slots := 0, locals := 21 } : Room) (gR G k sa [.ref h0, .int a, .int b] [(h0, .inr (11, [.ref (v 0), .int 0, .int 0, .ref (v 3), .ref (v 4), .ref (v 5), .ref (v 6), .ref (v 7), .int 0, .int 0, .int 0, .int 0, .int 0, .int 0, .int 0, .ref (v 15), .int 0, .ref (v 17), .int 0, .ref (v 19), .ref (v 20), .int (-1), .int 0, .ref (v 23), .int (-1), .int (-1), .int (-1), .int 0, .int (-1), .int 0, .ref (v 30), .int 0, .ref (v 32), .int 0, .int 0, .ref (v 35), .ref (v 36), .ref (v 37), .ref (v 38), .long 0, .ref (v 40), .ref (v 41), .ref (v 42), .ref (v 43)])), (v 20, .inl (k 0, 206, .inl (fun _ => 0)))]) (vp_Si (fun r => r = (-1))) 0 0 (fun _ => False) := by
  refine gz_metR (cc := cX11_pence) (maxL := 9) (ret := (some .int)) (by decide) rfl (Nat.le_of_ble_eq_true rfl) ?_
  intro p_ e_ s_ m below_ meth_ c_ ls hx hb hr hml hts hown hlocks hP hE hl
  have hl : lv_has ls 9 [(0, .ref h0), (1, .int a), (2, .int b)] := hl
  refine lv_aload_n hx hb dX11_pence_0 rfl (lv_at hl 0 rfl) ?_
  refine lv_iload_n hx hb dX11_pence_1 rfl (lv_at hl 2 rfl) ?_
  refine vp_callSi (W.runV (As := [.int b]) (rest := []) ⟨hx, hb, hml, hown, hts⟩ (m_isPerson l G k sa h0 v b) (cwV 1 hts g_m_pence_305_m_isPerson rfl rfl rfl (by decide +kernel) ⟨(Nat.le_of_ble_eq_true rfl), (Nat.le_of_ble_eq_true rfl)⟩) ⟨gR.bl, va_recv hE.K hP (ci := 11) (q0 := 0) rfl rfl, (gR.pre (wc := [(h0, .inr (11, [.ref (v 0), .int 0, .int 0, .ref (v 3), .ref (v 4), .ref (v 5), .ref (v 6), .ref (v 7), .int 0, .int 0, .int 0, .int 0, .int 0, .int 0, .int 0, .ref (v 15), .int 0, .ref (v 17), .int 0, .ref (v 19), .ref (v 20), .int (-1), .int 0, .ref (v 23), .int (-1), .int (-1), .int (-1), .int 0, .int (-1), .int 0, .ref (v 30), .int 0, .ref (v 32), .int 0, .int 0, .ref (v 35), .ref (v 36), .ref (v 37), .ref (v 38), .long 0, .ref (v 40), .ref (v 41), .ref (v 42), .ref (v 43)])), (v 20, .inl (k 0, 206, .inl (fun _ => 0)))]) hE hP [0, 1] rfl)⟩ rfl rfl hl.1 rfl (lv_room (Nat.le_of_ble_eq_true rfl)) dX11_pence_2 ⟨(Nat.le_of_ble_eq_true rfl), (Nat.le_of_ble_eq_true rfl)⟩) (fun r_1 hr_1 => ?_)
  obtain rfl : r_1 = 0 := hr_1
  refine lv_if_eq (tgt := 20) hx hb dX11_pence_5 (by decide) (fun _ => ?_) (fun h9 => absurd h9 (by decide))
  refine lv_iconst (v := (-1)) hx hb dX11_pence_20 (by decide) ?_
  exact W.iret (v := (-1)) hx hb hr (fun t ht hW => ⟨(-1), rfl, rfl, ht⟩) (fun _ h9 => absurd h9 List.not_mem_nil) dX11_pence_21
set_option maxHeartbeats 4000000 in
set_option maxRecDepth 100000 in
theorem m_ruled (l : Launch) (G : va_G) (k : Nat → ClassId) (sa : Nat → Nat) (h0 : Nat) (v : Nat → Nat) (a : Int32) : Met l yX11_ruled vs_m_ruled ({ frames := 1, cells := 0, slots := 0, locals := 20 } : Room) (gR G k sa [.ref h0, .int a] [(h0, .inr (11, [.ref (v 0), .int 0, .int 0, .ref (v 3), .ref (v 4), .ref (v 5), .ref (v 6), .ref (v 7), .int 0, .int 0, .int 0, .int 0, .int 0, .int 0, .int 0, .ref (v 15), .int 0, .ref (v 17), .int 0, .ref (v 19), .ref (v 20), .int (-1), .int 0, .ref (v 23), .int (-1), .int (-1), .int (-1), .int 0, .int (-1), .int 0, .ref (v 30), .int 0, .ref (v 32), .int 0, .int 0, .ref (v 35), .ref (v 36), .ref (v 37), .ref (v 38), .long 0, .ref (v 40), .ref (v 41), .ref (v 42), .ref (v 43)])), (v 20, .inl (k 0, 206, .inl (fun _ => 0)))]) (vp_Si (fun r => r = (-3))) 0 0 (fun _ => False) := by
  refine gz_metR (cc := cX11_ruled) (maxL := 5) (ret := (some .int)) (by decide) rfl (Nat.le_of_ble_eq_true rfl) ?_
  intro p_ e_ s_ m below_ meth_ c_ ls hx hb hr hml hts hown hlocks hP hE hl
  have hl : lv_has ls 5 [(0, .ref h0), (1, .int a)] := hl
  refine lv_aload_n hx hb dX11_ruled_0 rfl (lv_at hl 0 rfl) ?_
  refine vp_callSi (W.runV (As := []) (rest := []) ⟨hx, hb, hml, hown, hts⟩ (m_isCountry l G k sa h0 v) (cwV 0 hts g_m_ruled_299_m_isCountry rfl rfl rfl (by decide +kernel) ⟨(Nat.le_of_ble_eq_true rfl), (Nat.le_of_ble_eq_true rfl)⟩) ⟨gR.bl, va_recv hE.K hP (ci := 11) (q0 := 0) rfl rfl, (gR.pre (wc := [(h0, .inr (11, [.ref (v 0), .int 0, .int 0, .ref (v 3), .ref (v 4), .ref (v 5), .ref (v 6), .ref (v 7), .int 0, .int 0, .int 0, .int 0, .int 0, .int 0, .int 0, .ref (v 15), .int 0, .ref (v 17), .int 0, .ref (v 19), .ref (v 20), .int (-1), .int 0, .ref (v 23), .int (-1), .int (-1), .int (-1), .int 0, .int (-1), .int 0, .ref (v 30), .int 0, .ref (v 32), .int 0, .int 0, .ref (v 35), .ref (v 36), .ref (v 37), .ref (v 38), .long 0, .ref (v 40), .ref (v 41), .ref (v 42), .ref (v 43)])), (v 20, .inl (k 0, 206, .inl (fun _ => 0)))]) hE hP [0, 1] rfl)⟩ rfl rfl hl.1 rfl (lv_room (Nat.le_of_ble_eq_true rfl)) dX11_ruled_1 ⟨(Nat.le_of_ble_eq_true rfl), (Nat.le_of_ble_eq_true rfl)⟩) (fun r_1 hr_1 => ?_)
  obtain rfl : r_1 = 0 := hr_1
  refine lv_if_eq (tgt := 17) hx hb dX11_ruled_4 (by decide) (fun _ => ?_) (fun h9 => absurd h9 (by decide))
  refine lv_bipush (v := (-3)) hx hb dX11_ruled_17 (by decide) ?_
  exact W.iret (v := (-3)) hx hb hr (fun t ht hW => ⟨(-3), rfl, rfl, ht⟩) (fun _ h9 => absurd h9 List.not_mem_nil) dX11_ruled_19
set_option maxHeartbeats 4000000 in
set_option maxRecDepth 100000 in
theorem m_look (l : Launch) (G : va_G) (k : Nat → ClassId) (sa : Nat → Nat) (h0 : Nat) (v : Nat → Nat) (a : Int32) (b : Int32) : Met l yX11_look vs_m_look ({ frames := 1, cells := 0, slots := 0, locals := 20 } : Room) (gR G k sa [.ref h0, .int a, .int b] [(h0, .inr (11, [.ref (v 0), .int 0, .int 0, .ref (v 3), .ref (v 4), .ref (v 5), .ref (v 6), .ref (v 7), .int 0, .int 0, .int 0, .int 0, .int 0, .int 0, .int 0, .ref (v 15), .int 0, .ref (v 17), .int 0, .ref (v 19), .ref (v 20), .int (-1), .int 0, .ref (v 23), .int (-1), .int (-1), .int (-1), .int 0, .int (-1), .int 0, .ref (v 30), .int 0, .ref (v 32), .int 0, .int 0, .ref (v 35), .ref (v 36), .ref (v 37), .ref (v 38), .long 0, .ref (v 40), .ref (v 41), .ref (v 42), .ref (v 43)])), (v 20, .inl (k 0, 206, .inl (fun _ => 0)))]) (vp_Si (fun r => r = (-1))) 0 0 (fun _ => False) := by
  refine gz_metR (cc := cX11_look) (maxL := 7) (ret := (some .int)) (by decide) rfl (Nat.le_of_ble_eq_true rfl) ?_
  intro p_ e_ s_ m below_ meth_ c_ ls hx hb hr hml hts hown hlocks hP hE hl
  have hl : lv_has ls 7 [(0, .ref h0), (1, .int a), (2, .int b)] := hl
  refine lv_aload_n hx hb dX11_look_0 rfl (lv_at hl 0 rfl) ?_
  refine vp_callSi (W.runV (As := []) (rest := []) ⟨hx, hb, hml, hown, hts⟩ (m_isCountry l G k sa h0 v) (cwV 0 hts g_m_look_299_m_isCountry rfl rfl rfl (by decide +kernel) ⟨(Nat.le_of_ble_eq_true rfl), (Nat.le_of_ble_eq_true rfl)⟩) ⟨gR.bl, va_recv hE.K hP (ci := 11) (q0 := 0) rfl rfl, (gR.pre (wc := [(h0, .inr (11, [.ref (v 0), .int 0, .int 0, .ref (v 3), .ref (v 4), .ref (v 5), .ref (v 6), .ref (v 7), .int 0, .int 0, .int 0, .int 0, .int 0, .int 0, .int 0, .ref (v 15), .int 0, .ref (v 17), .int 0, .ref (v 19), .ref (v 20), .int (-1), .int 0, .ref (v 23), .int (-1), .int (-1), .int (-1), .int 0, .int (-1), .int 0, .ref (v 30), .int 0, .ref (v 32), .int 0, .int 0, .ref (v 35), .ref (v 36), .ref (v 37), .ref (v 38), .long 0, .ref (v 40), .ref (v 41), .ref (v 42), .ref (v 43)])), (v 20, .inl (k 0, 206, .inl (fun _ => 0)))]) hE hP [0, 1] rfl)⟩ rfl rfl hl.1 rfl (lv_room (Nat.le_of_ble_eq_true rfl)) dX11_look_1 ⟨(Nat.le_of_ble_eq_true rfl), (Nat.le_of_ble_eq_true rfl)⟩) (fun r_1 hr_1 => ?_)
  obtain rfl : r_1 = 0 := hr_1
  refine lv_if_eq (tgt := 29) hx hb dX11_look_4 (by decide) (fun _ => ?_) (fun h9 => absurd h9 (by decide))
  refine lv_iconst (v := (-1)) hx hb dX11_look_29 (by decide) ?_
  exact W.iret (v := (-1)) hx hb hr (fun t ht hW => ⟨(-1), rfl, rfl, ht⟩) (fun _ h9 => absurd h9 List.not_mem_nil) dX11_look_30
set_option maxHeartbeats 4000000 in
set_option maxRecDepth 100000 in
theorem m_gusts (l : Launch) (G : va_G) (k : Nat → ClassId) (sa : Nat → Nat) (h0 : Nat) (v : Nat → Nat) (a : Int32) (b : Int32) (c1 : Int32) (d1 : Int32) : Met l yX11_gusts vs_m_gusts ({ frames := 1, cells := 0, slots := 0, locals := 20 } : Room) (gR G k sa [.ref h0, .int a, .int b, .int c1, .int d1] [(h0, .inr (11, [.ref (v 0), .int 0, .int 0, .ref (v 3), .ref (v 4), .ref (v 5), .ref (v 6), .ref (v 7), .int 0, .int 0, .int 0, .int 0, .int 0, .int 0, .int 0, .ref (v 15), .int 0, .ref (v 17), .int 0, .ref (v 19), .ref (v 20), .int (-1), .int 0, .ref (v 23), .int (-1), .int (-1), .int (-1), .int 0, .int (-1), .int 0, .ref (v 30), .int 0, .ref (v 32), .int 0, .int 0, .ref (v 35), .ref (v 36), .ref (v 37), .ref (v 38), .long 0, .ref (v 40), .ref (v 41), .ref (v 42), .ref (v 43)])), (v 20, .inl (k 0, 206, .inl (fun _ => 0)))]) (vp_Si (fun r => r = (-1))) 0 0 (fun _ => False) := by
  refine gz_metR (cc := cX11_gusts) (maxL := 10) (ret := (some .int)) (by decide) rfl (Nat.le_of_ble_eq_true rfl) ?_
  intro p_ e_ s_ m below_ meth_ c_ ls hx hb hr hml hts hown hlocks hP hE hl
  have hl : lv_has ls 10 [(0, .ref h0), (1, .int a), (2, .int b), (3, .int c1), (4, .int d1)] := hl
  refine lv_aload_n hx hb dX11_gusts_0 rfl (lv_at hl 0 rfl) ?_
  refine vp_callSi (W.runV (As := []) (rest := []) ⟨hx, hb, hml, hown, hts⟩ (m_isCountry l G k sa h0 v) (cwV 0 hts g_m_gusts_299_m_isCountry rfl rfl rfl (by decide +kernel) ⟨(Nat.le_of_ble_eq_true rfl), (Nat.le_of_ble_eq_true rfl)⟩) ⟨gR.bl, va_recv hE.K hP (ci := 11) (q0 := 0) rfl rfl, (gR.pre (wc := [(h0, .inr (11, [.ref (v 0), .int 0, .int 0, .ref (v 3), .ref (v 4), .ref (v 5), .ref (v 6), .ref (v 7), .int 0, .int 0, .int 0, .int 0, .int 0, .int 0, .int 0, .ref (v 15), .int 0, .ref (v 17), .int 0, .ref (v 19), .ref (v 20), .int (-1), .int 0, .ref (v 23), .int (-1), .int (-1), .int (-1), .int 0, .int (-1), .int 0, .ref (v 30), .int 0, .ref (v 32), .int 0, .int 0, .ref (v 35), .ref (v 36), .ref (v 37), .ref (v 38), .long 0, .ref (v 40), .ref (v 41), .ref (v 42), .ref (v 43)])), (v 20, .inl (k 0, 206, .inl (fun _ => 0)))]) hE hP [0, 1] rfl)⟩ rfl rfl hl.1 rfl (lv_room (Nat.le_of_ble_eq_true rfl)) dX11_gusts_1 ⟨(Nat.le_of_ble_eq_true rfl), (Nat.le_of_ble_eq_true rfl)⟩) (fun r_1 hr_1 => ?_)
  obtain rfl : r_1 = 0 := hr_1
  refine lv_if_eq (tgt := 54) hx hb dX11_gusts_4 (by decide) (fun _ => ?_) (fun h9 => absurd h9 (by decide))
  refine lv_iconst (v := (-1)) hx hb dX11_gusts_54 (by decide) ?_
  exact W.iret (v := (-1)) hx hb hr (fun t ht hW => ⟨(-1), rfl, rfl, ht⟩) (fun _ h9 => absurd h9 List.not_mem_nil) dX11_gusts_55
set_option maxHeartbeats 4000000 in
set_option maxRecDepth 100000 in
theorem m_onesWhoAre (l : Launch) (G : va_G) (k : Nat → ClassId) (sa : Nat → Nat) (h0 : Nat) (v : Nat → Nat) (a : Int32) : Met l yX11_onesWhoAre vs_m_onesWhoAre ({ frames := 0, cells := 0, slots := 0, locals := 0 } : Room) (gR G k sa [.ref h0, .int a] [(h0, .inr (11, [.ref (v 0), .int 0, .int 0, .ref (v 3), .ref (v 4), .ref (v 5), .ref (v 6), .ref (v 7), .int 0, .int 0, .int 0, .int 0, .int 0, .int 0, .int 0, .ref (v 15), .int 0, .ref (v 17), .int 0, .ref (v 19), .ref (v 20), .int (-1), .int 0, .ref (v 23), .int (-1), .int (-1), .int (-1), .int 0, .int (-1), .int 0, .ref (v 30), .int 0, .ref (v 32), .int 0, .int 0, .ref (v 35), .ref (v 36), .ref (v 37), .ref (v 38), .long 0, .ref (v 40), .ref (v 41), .ref (v 42), .ref (v 43)])), (v 20, .inl (k 0, 206, .inl (fun _ => 0)))]) (vp_Si (fun r => r = 0)) 0 0 (fun _ => False) := by
  refine gz_metR (cc := cX11_onesWhoAre) (maxL := 4) (ret := (some .int)) (by decide) rfl (Nat.le_of_ble_eq_true rfl) ?_
  intro p_ e_ s_ m below_ meth_ c_ ls hx hb hr hml hts hown hlocks hP hE hl
  have hl : lv_has ls 4 [(0, .ref h0), (1, .int a)] := hl
  refine lv_iconst (v := 0) hx hb dX11_onesWhoAre_0 (by decide) ?_
  refine lv_istore_n (lv' := [(2, .int 0), (0, .ref h0), (1, .int a)]) hx hb dX11_onesWhoAre_1 rfl hl (by decide) rfl (fun ls hl => ?_)
  refine lv_iconst (v := 0) hx hb dX11_onesWhoAre_2 (by decide) ?_
  refine lv_istore_n (lv' := [(3, .int 0), (2, .int 0), (0, .ref h0), (1, .int a)]) hx hb dX11_onesWhoAre_3 rfl hl (by decide) rfl (fun ls hl => ?_)
  refine lv_iload_n hx hb dX11_onesWhoAre_4 rfl (lv_at hl 0 rfl) ?_
  refine lv_aload_n hx hb dX11_onesWhoAre_5 rfl (lv_at hl 2 rfl) ?_
  refine va_get (D := G) (ci := 11) (v := .ref (v 20)) (C := RX11) (T := TX11) (N := 44) hx hb hts j_m_onesWhoAre_11 hown hE.K hP 0 rfl rfl 20 (by decide) (hts (.fieldLink RX11 39 "GossamerGateModel" "said" "[I") (List.mem_cons_of_mem _ (List.mem_append_left _ (List.mem_of_getElem? (i := 0) rfl)))) (fun _ h9 => h9) rfl dX11_onesWhoAre_6 ?_
  refine lv_iconst (v := 3) hx hb dX11_onesWhoAre_9 (by decide) ?_
  refine va_iald hx hb hE.K hP 1 0 rfl rfl (gz_in (by decide)) dX11_onesWhoAre_10 ?_
  refine gz_ni (v := 0) rfl ?_
  refine lv_icmp_ge (tgt := 39) hx hb dX11_onesWhoAre_11 (by decide) (fun _ => ?_) (fun h9 => absurd h9 (by decide))
  refine lv_iload_n hx hb dX11_onesWhoAre_39 rfl (lv_at hl 1 rfl) ?_
  exact W.iret (v := 0) hx hb hr (fun t ht hW => ⟨0, rfl, rfl, ht⟩) (fun _ h9 => absurd h9 List.not_mem_nil) dX11_onesWhoAre_40
set_option maxHeartbeats 4000000 in
set_option maxRecDepth 100000 in
theorem m_sumOver (l : Launch) (G : va_G) (k : Nat → ClassId) (sa : Nat → Nat) (h0 : Nat) (v : Nat → Nat) (a : Int32) : Met l yX11_sumOver vs_m_sumOver ({ frames := 0, cells := 0, slots := 0, locals := 0 } : Room) (gR G k sa [.ref h0, .int a] [(h0, .inr (11, [.ref (v 0), .int 0, .int 0, .ref (v 3), .ref (v 4), .ref (v 5), .ref (v 6), .ref (v 7), .int 0, .int 0, .int 0, .int 0, .int 0, .int 0, .int 0, .ref (v 15), .int 0, .ref (v 17), .int 0, .ref (v 19), .ref (v 20), .int (-1), .int 0, .ref (v 23), .int (-1), .int (-1), .int (-1), .int 0, .int (-1), .int 0, .ref (v 30), .int 0, .ref (v 32), .int 0, .int 0, .ref (v 35), .ref (v 36), .ref (v 37), .ref (v 38), .long 0, .ref (v 40), .ref (v 41), .ref (v 42), .ref (v 43)])), (v 20, .inl (k 0, 206, .inl (fun _ => 0)))]) (vp_Si (fun r => r = 0)) 0 0 (fun _ => False) := by
  refine gz_metR (cc := cX11_sumOver) (maxL := 4) (ret := (some .int)) (by decide) rfl (Nat.le_of_ble_eq_true rfl) ?_
  intro p_ e_ s_ m below_ meth_ c_ ls hx hb hr hml hts hown hlocks hP hE hl
  have hl : lv_has ls 4 [(0, .ref h0), (1, .int a)] := hl
  refine lv_iconst (v := 0) hx hb dX11_sumOver_0 (by decide) ?_
  refine lv_istore_n (lv' := [(2, .int 0), (0, .ref h0), (1, .int a)]) hx hb dX11_sumOver_1 rfl hl (by decide) rfl (fun ls hl => ?_)
  refine lv_iconst (v := 0) hx hb dX11_sumOver_2 (by decide) ?_
  refine lv_istore_n (lv' := [(3, .int 0), (2, .int 0), (0, .ref h0), (1, .int a)]) hx hb dX11_sumOver_3 rfl hl (by decide) rfl (fun ls hl => ?_)
  refine lv_iload_n hx hb dX11_sumOver_4 rfl (lv_at hl 0 rfl) ?_
  refine lv_aload_n hx hb dX11_sumOver_5 rfl (lv_at hl 2 rfl) ?_
  refine va_get (D := G) (ci := 11) (v := .ref (v 20)) (C := RX11) (T := TX11) (N := 44) hx hb hts j_m_sumOver_11 hown hE.K hP 0 rfl rfl 20 (by decide) (hts (.fieldLink RX11 39 "GossamerGateModel" "said" "[I") (List.mem_cons_of_mem _ (List.mem_append_left _ (List.mem_of_getElem? (i := 0) rfl)))) (fun _ h9 => h9) rfl dX11_sumOver_6 ?_
  refine lv_iconst (v := 3) hx hb dX11_sumOver_9 (by decide) ?_
  refine va_iald hx hb hE.K hP 1 0 rfl rfl (gz_in (by decide)) dX11_sumOver_10 ?_
  refine gz_ni (v := 0) rfl ?_
  refine lv_icmp_ge (tgt := 36) hx hb dX11_sumOver_11 (by decide) (fun _ => ?_) (fun h9 => absurd h9 (by decide))
  refine lv_iload_n hx hb dX11_sumOver_36 rfl (lv_at hl 1 rfl) ?_
  exact W.iret (v := 0) hx hb hr (fun t ht hW => ⟨0, rfl, rfl, ht⟩) (fun _ h9 => absurd h9 List.not_mem_nil) dX11_sumOver_37
set_option maxHeartbeats 4000000 in
set_option maxRecDepth 100000 in
theorem m_count (l : Launch) (G : va_G) (k : Nat → ClassId) (sa : Nat → Nat) (h0 : Nat) (v : Nat → Nat) (a : Int32) : Met l yX11_count vs_m_count ({ frames := 2, cells := 0, slots := 0, locals := 40 } : Room) (gR G k sa [.ref h0, .int a] [(h0, .inr (11, [.ref (v 0), .int 0, .int 0, .ref (v 3), .ref (v 4), .ref (v 5), .ref (v 6), .ref (v 7), .int 0, .int 0, .int 0, .int 0, .int 0, .int 0, .int 0, .ref (v 15), .int 0, .ref (v 17), .int 0, .ref (v 19), .ref (v 20), .int (-1), .int 0, .ref (v 23), .int (-1), .int (-1), .int (-1), .int 0, .int (-1), .int 0, .ref (v 30), .int 0, .ref (v 32), .int 0, .int 0, .ref (v 35), .ref (v 36), .ref (v 37), .ref (v 38), .long 0, .ref (v 40), .ref (v 41), .ref (v 42), .ref (v 43)])), (v 20, .inl (k 0, 206, .inl (fun _ => 0)))]) (vp_Si (fun r => (r = 0 ∧ (0 ≤ a.toInt ∧ a.toInt ≤ 14 ∧ ¬ a = 4)) ∨ (r = (-1) ∧ (a = 4 ∨ a.toInt < 0 ∨ 14 < a.toInt)))) 0 0 (fun _ => False) := by
  refine gz_metR (cc := cX11_count) (maxL := 4) (ret := (some .int)) (by decide) rfl (Nat.le_of_ble_eq_true rfl) ?_
  intro p_ e_ s_ m below_ meth_ c_ ls hx hb hr hml hts hown hlocks hP hE hl
  have hl : lv_has ls 4 [(0, .ref h0), (1, .int a)] := hl
  refine lv_iconst (v := 0) hx hb dX11_count_0 (by decide) ?_
  refine lv_istore_n (lv' := [(2, .int 0), (0, .ref h0), (1, .int a)]) hx hb dX11_count_1 rfl hl (by decide) rfl (fun ls hl => ?_)
  refine lv_iload_n hx hb dX11_count_2 rfl (lv_at hl 2 rfl) ?_
  rcases gz_tab_0_14 a with c_1 | rfl | rfl | rfl | rfl | rfl | rfl | rfl | rfl | rfl | rfl | rfl | rfl | rfl | rfl | rfl
  · refine lv_tableOut (tgt := 189) hx hb dX11_count_3 c_1 (by decide) ?_
    refine lv_iconst (v := (-1)) hx hb dX11_count_189 (by decide) ?_
    exact W.iret (v := (-1)) hx hb hr (fun t ht hW => ⟨(-1), rfl, (Or.inr ⟨rfl, Or.inr c_1⟩), ht⟩) (fun _ h9 => absurd h9 List.not_mem_nil) dX11_count_190
  · refine lv_tableIn (off := 73) (tgt := 76) hx hb dX11_count_3 (by decide) (by decide) (by decide) (by decide) ?_
    refine lv_aload_n hx hb dX11_count_76 rfl (lv_at hl 1 rfl) ?_
    refine va_get (D := G) (ci := 11) (v := .ref (v 20)) (C := RX11) (T := TX11) (N := 44) hx hb hts j_m_count_11 hown hE.K hP 0 rfl rfl 20 (by decide) (hts (.fieldLink RX11 39 "GossamerGateModel" "said" "[I") (List.mem_cons_of_mem _ (List.mem_append_left _ (List.mem_of_getElem? (i := 0) rfl)))) (fun _ h9 => h9) rfl dX11_count_77 ?_
    refine lv_iconst (v := 1) hx hb dX11_count_80 (by decide) ?_
    refine va_iald hx hb hE.K hP 1 0 rfl rfl (gz_in (by decide)) dX11_count_81 ?_
    refine gz_ni (v := 0) rfl ?_
    exact W.iret (v := 0) hx hb hr (fun t ht hW => ⟨0, rfl, (Or.inl ⟨rfl, by decide⟩), ht⟩) (fun _ h9 => absurd h9 List.not_mem_nil) dX11_count_82
  · refine lv_tableIn (off := 80) (tgt := 83) hx hb dX11_count_3 (by decide) (by decide) (by decide) (by decide) ?_
    refine lv_aload_n hx hb dX11_count_83 rfl (lv_at hl 1 rfl) ?_
    refine vp_callSi (W.runV (As := []) (rest := []) ⟨hx, hb, hml, hown, hts⟩ (m_rounds l G k sa h0 v) (cwV 0 hts g_m_count_314_m_rounds rfl rfl rfl (by decide +kernel) ⟨(Nat.le_of_ble_eq_true rfl), (Nat.le_of_ble_eq_true rfl)⟩) ⟨gR.bl, va_recv hE.K hP (ci := 11) (q0 := 0) rfl rfl, (gR.pre (wc := [(h0, .inr (11, [.ref (v 0), .int 0, .int 0, .ref (v 3), .ref (v 4), .ref (v 5), .ref (v 6), .ref (v 7), .int 0, .int 0, .int 0, .int 0, .int 0, .int 0, .int 0, .ref (v 15), .int 0, .ref (v 17), .int 0, .ref (v 19), .ref (v 20), .int (-1), .int 0, .ref (v 23), .int (-1), .int (-1), .int (-1), .int 0, .int (-1), .int 0, .ref (v 30), .int 0, .ref (v 32), .int 0, .int 0, .ref (v 35), .ref (v 36), .ref (v 37), .ref (v 38), .long 0, .ref (v 40), .ref (v 41), .ref (v 42), .ref (v 43)])), (v 20, .inl (k 0, 206, .inl (fun _ => 0)))]) hE hP [0, 1] rfl)⟩ rfl rfl hl.1 rfl (lv_room (Nat.le_of_ble_eq_true rfl)) dX11_count_84 ⟨(Nat.le_of_ble_eq_true rfl), (Nat.le_of_ble_eq_true rfl)⟩) (fun r_2 hr_2 => ?_)
    obtain rfl : r_2 = 0 := hr_2
    exact W.iret (v := 0) hx hb hr (fun t ht hW => ⟨0, rfl, (Or.inl ⟨rfl, by decide⟩), ht⟩) (fun _ h9 => absurd h9 List.not_mem_nil) dX11_count_87
  · refine lv_tableIn (off := 85) (tgt := 88) hx hb dX11_count_3 (by decide) (by decide) (by decide) (by decide) ?_
    refine lv_aload_n hx hb dX11_count_88 rfl (lv_at hl 1 rfl) ?_
    refine va_get (D := G) (ci := 11) (v := .ref (v 20)) (C := RX11) (T := TX11) (N := 44) hx hb hts j_m_count_11 hown hE.K hP 0 rfl rfl 20 (by decide) (hts (.fieldLink RX11 39 "GossamerGateModel" "said" "[I") (List.mem_cons_of_mem _ (List.mem_append_left _ (List.mem_of_getElem? (i := 0) rfl)))) (fun _ h9 => h9) rfl dX11_count_89 ?_
    refine lv_iconst (v := 3) hx hb dX11_count_92 (by decide) ?_
    refine va_iald hx hb hE.K hP 1 0 rfl rfl (gz_in (by decide)) dX11_count_93 ?_
    refine gz_ni (v := 0) rfl ?_
    exact W.iret (v := 0) hx hb hr (fun t ht hW => ⟨0, rfl, (Or.inl ⟨rfl, by decide⟩), ht⟩) (fun _ h9 => absurd h9 List.not_mem_nil) dX11_count_94
  · refine lv_tableIn (off := 92) (tgt := 95) hx hb dX11_count_3 (by decide) (by decide) (by decide) (by decide) ?_
    refine lv_aload_n hx hb dX11_count_95 rfl (lv_at hl 1 rfl) ?_
    refine va_get (D := G) (ci := 11) (v := .int 0) (C := RX11) (T := TX11) (N := 44) hx hb hts j_m_count_11 hown hE.K hP 0 rfl rfl 2 (by decide) (hts (.fieldLink RX11 272 "GossamerGateModel" "rules" "I") (List.mem_cons_of_mem _ (List.mem_append_left _ (List.mem_of_getElem? (i := 5) rfl)))) (fun _ h9 => h9) rfl dX11_count_96 ?_
    exact W.iret (v := 0) hx hb hr (fun t ht hW => ⟨0, rfl, (Or.inl ⟨rfl, by decide⟩), ht⟩) (fun _ h9 => absurd h9 List.not_mem_nil) dX11_count_99
  · refine lv_tableIn (off := 97) (tgt := 100) hx hb dX11_count_3 (by decide) (by decide) (by decide) (by decide) ?_
    refine lv_aload_n hx hb dX11_count_100 rfl (lv_at hl 1 rfl) ?_
    refine va_get (D := G) (ci := 11) (v := .int (-1)) (C := RX11) (T := TX11) (N := 44) hx hb hts j_m_count_11 hown hE.K hP 0 rfl rfl 21 (by decide) (hts (.fieldLink RX11 42 "GossamerGateModel" "force" "I") (List.mem_cons_of_mem _ (List.mem_append_left _ (List.mem_of_getElem? (i := 6) rfl)))) (fun _ h9 => h9) rfl dX11_count_101 ?_
    exact W.iret (v := (-1)) hx hb hr (fun t ht hW => ⟨(-1), rfl, (Or.inr ⟨rfl, by decide⟩), ht⟩) (fun _ h9 => absurd h9 List.not_mem_nil) dX11_count_104
  · refine lv_tableIn (off := 102) (tgt := 105) hx hb dX11_count_3 (by decide) (by decide) (by decide) (by decide) ?_
    refine lv_aload_n hx hb dX11_count_105 rfl (lv_at hl 1 rfl) ?_
    refine va_get (D := G) (ci := 11) (v := .ref (v 20)) (C := RX11) (T := TX11) (N := 44) hx hb hts j_m_count_11 hown hE.K hP 0 rfl rfl 20 (by decide) (hts (.fieldLink RX11 39 "GossamerGateModel" "said" "[I") (List.mem_cons_of_mem _ (List.mem_append_left _ (List.mem_of_getElem? (i := 0) rfl)))) (fun _ h9 => h9) rfl dX11_count_106 ?_
    refine lv_bipush (v := 10) hx hb dX11_count_109 (by decide) ?_
    refine va_iald hx hb hE.K hP 1 0 rfl rfl (gz_in (by decide)) dX11_count_111 ?_
    refine gz_ni (v := 0) rfl ?_
    exact W.iret (v := 0) hx hb hr (fun t ht hW => ⟨0, rfl, (Or.inl ⟨rfl, by decide⟩), ht⟩) (fun _ h9 => absurd h9 List.not_mem_nil) dX11_count_112
  · refine lv_tableIn (off := 110) (tgt := 113) hx hb dX11_count_3 (by decide) (by decide) (by decide) (by decide) ?_
    refine lv_aload_n hx hb dX11_count_113 rfl (lv_at hl 1 rfl) ?_
    refine lv_iconst (v := 1) hx hb dX11_count_114 (by decide) ?_
    refine vp_callSi (W.runV (As := [.int 1]) (rest := []) ⟨hx, hb, hml, hown, hts⟩ (m_onesWhoAre l G k sa h0 v 1) (cwV 1 hts g_m_count_348_m_onesWhoAre rfl rfl rfl (by decide +kernel) ⟨(Nat.le_of_ble_eq_true rfl), (Nat.le_of_ble_eq_true rfl)⟩) ⟨gR.bl, va_recv hE.K hP (ci := 11) (q0 := 0) rfl rfl, (gR.pre (wc := [(h0, .inr (11, [.ref (v 0), .int 0, .int 0, .ref (v 3), .ref (v 4), .ref (v 5), .ref (v 6), .ref (v 7), .int 0, .int 0, .int 0, .int 0, .int 0, .int 0, .int 0, .ref (v 15), .int 0, .ref (v 17), .int 0, .ref (v 19), .ref (v 20), .int (-1), .int 0, .ref (v 23), .int (-1), .int (-1), .int (-1), .int 0, .int (-1), .int 0, .ref (v 30), .int 0, .ref (v 32), .int 0, .int 0, .ref (v 35), .ref (v 36), .ref (v 37), .ref (v 38), .long 0, .ref (v 40), .ref (v 41), .ref (v 42), .ref (v 43)])), (v 20, .inl (k 0, 206, .inl (fun _ => 0)))]) hE hP [0, 1] rfl)⟩ rfl rfl hl.1 rfl (lv_room (Nat.le_of_ble_eq_true rfl)) dX11_count_115 ⟨(Nat.le_of_ble_eq_true rfl), (Nat.le_of_ble_eq_true rfl)⟩) (fun r_3 hr_3 => ?_)
    obtain rfl : r_3 = 0 := hr_3
    exact W.iret (v := 0) hx hb hr (fun t ht hW => ⟨0, rfl, (Or.inl ⟨rfl, by decide⟩), ht⟩) (fun _ h9 => absurd h9 List.not_mem_nil) dX11_count_118
  · refine lv_tableIn (off := 116) (tgt := 119) hx hb dX11_count_3 (by decide) (by decide) (by decide) (by decide) ?_
    refine lv_aload_n hx hb dX11_count_119 rfl (lv_at hl 1 rfl) ?_
    refine lv_iconst (v := 2) hx hb dX11_count_120 (by decide) ?_
    refine vp_callSi (W.runV (As := [.int 2]) (rest := []) ⟨hx, hb, hml, hown, hts⟩ (m_onesWhoAre l G k sa h0 v 2) (cwV 1 hts g_m_count_348_m_onesWhoAre rfl rfl rfl (by decide +kernel) ⟨(Nat.le_of_ble_eq_true rfl), (Nat.le_of_ble_eq_true rfl)⟩) ⟨gR.bl, va_recv hE.K hP (ci := 11) (q0 := 0) rfl rfl, (gR.pre (wc := [(h0, .inr (11, [.ref (v 0), .int 0, .int 0, .ref (v 3), .ref (v 4), .ref (v 5), .ref (v 6), .ref (v 7), .int 0, .int 0, .int 0, .int 0, .int 0, .int 0, .int 0, .ref (v 15), .int 0, .ref (v 17), .int 0, .ref (v 19), .ref (v 20), .int (-1), .int 0, .ref (v 23), .int (-1), .int (-1), .int (-1), .int 0, .int (-1), .int 0, .ref (v 30), .int 0, .ref (v 32), .int 0, .int 0, .ref (v 35), .ref (v 36), .ref (v 37), .ref (v 38), .long 0, .ref (v 40), .ref (v 41), .ref (v 42), .ref (v 43)])), (v 20, .inl (k 0, 206, .inl (fun _ => 0)))]) hE hP [0, 1] rfl)⟩ rfl rfl hl.1 rfl (lv_room (Nat.le_of_ble_eq_true rfl)) dX11_count_121 ⟨(Nat.le_of_ble_eq_true rfl), (Nat.le_of_ble_eq_true rfl)⟩) (fun r_4 hr_4 => ?_)
    obtain rfl : r_4 = 0 := hr_4
    exact W.iret (v := 0) hx hb hr (fun t ht hW => ⟨0, rfl, (Or.inl ⟨rfl, by decide⟩), ht⟩) (fun _ h9 => absurd h9 List.not_mem_nil) dX11_count_124
  · refine lv_tableIn (off := 122) (tgt := 125) hx hb dX11_count_3 (by decide) (by decide) (by decide) (by decide) ?_
    refine lv_aload_n hx hb dX11_count_125 rfl (lv_at hl 1 rfl) ?_
    refine lv_iconst (v := 1) hx hb dX11_count_126 (by decide) ?_
    refine vp_callSi (W.runV (As := [.int 1]) (rest := []) ⟨hx, hb, hml, hown, hts⟩ (m_sumOver l G k sa h0 v 1) (cwV 1 hts g_m_count_428_m_sumOver rfl rfl rfl (by decide +kernel) ⟨(Nat.le_of_ble_eq_true rfl), (Nat.le_of_ble_eq_true rfl)⟩) ⟨gR.bl, va_recv hE.K hP (ci := 11) (q0 := 0) rfl rfl, (gR.pre (wc := [(h0, .inr (11, [.ref (v 0), .int 0, .int 0, .ref (v 3), .ref (v 4), .ref (v 5), .ref (v 6), .ref (v 7), .int 0, .int 0, .int 0, .int 0, .int 0, .int 0, .int 0, .ref (v 15), .int 0, .ref (v 17), .int 0, .ref (v 19), .ref (v 20), .int (-1), .int 0, .ref (v 23), .int (-1), .int (-1), .int (-1), .int 0, .int (-1), .int 0, .ref (v 30), .int 0, .ref (v 32), .int 0, .int 0, .ref (v 35), .ref (v 36), .ref (v 37), .ref (v 38), .long 0, .ref (v 40), .ref (v 41), .ref (v 42), .ref (v 43)])), (v 20, .inl (k 0, 206, .inl (fun _ => 0)))]) hE hP [0, 1] rfl)⟩ rfl rfl hl.1 rfl (lv_room (Nat.le_of_ble_eq_true rfl)) dX11_count_127 ⟨(Nat.le_of_ble_eq_true rfl), (Nat.le_of_ble_eq_true rfl)⟩) (fun r_5 hr_5 => ?_)
    obtain rfl : r_5 = 0 := hr_5
    exact W.iret (v := 0) hx hb hr (fun t ht hW => ⟨0, rfl, (Or.inl ⟨rfl, by decide⟩), ht⟩) (fun _ h9 => absurd h9 List.not_mem_nil) dX11_count_130
  · refine lv_tableIn (off := 128) (tgt := 131) hx hb dX11_count_3 (by decide) (by decide) (by decide) (by decide) ?_
    refine lv_aload_n hx hb dX11_count_131 rfl (lv_at hl 1 rfl) ?_
    refine lv_iconst (v := 3) hx hb dX11_count_132 (by decide) ?_
    refine vp_callSi (W.runV (As := [.int 3]) (rest := []) ⟨hx, hb, hml, hown, hts⟩ (m_sumOver l G k sa h0 v 3) (cwV 1 hts g_m_count_428_m_sumOver rfl rfl rfl (by decide +kernel) ⟨(Nat.le_of_ble_eq_true rfl), (Nat.le_of_ble_eq_true rfl)⟩) ⟨gR.bl, va_recv hE.K hP (ci := 11) (q0 := 0) rfl rfl, (gR.pre (wc := [(h0, .inr (11, [.ref (v 0), .int 0, .int 0, .ref (v 3), .ref (v 4), .ref (v 5), .ref (v 6), .ref (v 7), .int 0, .int 0, .int 0, .int 0, .int 0, .int 0, .int 0, .ref (v 15), .int 0, .ref (v 17), .int 0, .ref (v 19), .ref (v 20), .int (-1), .int 0, .ref (v 23), .int (-1), .int (-1), .int (-1), .int 0, .int (-1), .int 0, .ref (v 30), .int 0, .ref (v 32), .int 0, .int 0, .ref (v 35), .ref (v 36), .ref (v 37), .ref (v 38), .long 0, .ref (v 40), .ref (v 41), .ref (v 42), .ref (v 43)])), (v 20, .inl (k 0, 206, .inl (fun _ => 0)))]) hE hP [0, 1] rfl)⟩ rfl rfl hl.1 rfl (lv_room (Nat.le_of_ble_eq_true rfl)) dX11_count_133 ⟨(Nat.le_of_ble_eq_true rfl), (Nat.le_of_ble_eq_true rfl)⟩) (fun r_6 hr_6 => ?_)
    obtain rfl : r_6 = 0 := hr_6
    exact W.iret (v := 0) hx hb hr (fun t ht hW => ⟨0, rfl, (Or.inl ⟨rfl, by decide⟩), ht⟩) (fun _ h9 => absurd h9 List.not_mem_nil) dX11_count_136
  · refine lv_tableIn (off := 134) (tgt := 137) hx hb dX11_count_3 (by decide) (by decide) (by decide) (by decide) ?_
    refine lv_iconst (v := 0) hx hb dX11_count_137 (by decide) ?_
    refine lv_istore_n (lv' := [(3, .int 0), (2, .int 0), (0, .ref h0), (1, .int 10)]) hx hb dX11_count_138 rfl hl (by decide) rfl (fun ls hl => ?_)
    refine lv_iload_n hx hb dX11_count_139 rfl (lv_at hl 0 rfl) ?_
    refine lv_bipush (v := 49) hx hb dX11_count_140 (by decide) ?_
    refine lv_icmp_ge (tgt := 163) hx hb dX11_count_142 (by decide) (fun h9 => absurd h9 (by decide)) (fun _ => ?_)
    refine lv_iload_n hx hb dX11_count_145 rfl (lv_at hl 1 rfl) ?_
    refine lv_aload_n hx hb dX11_count_146 rfl (lv_at hl 2 rfl) ?_
    refine va_get (D := G) (ci := 11) (v := .ref (v 20)) (C := RX11) (T := TX11) (N := 44) hx hb hts j_m_count_11 hown hE.K hP 0 rfl rfl 20 (by decide) (hts (.fieldLink RX11 39 "GossamerGateModel" "said" "[I") (List.mem_cons_of_mem _ (List.mem_append_left _ (List.mem_of_getElem? (i := 0) rfl)))) (fun _ h9 => h9) rfl dX11_count_147 ?_
    refine lv_bipush (v := 35) hx hb dX11_count_150 (by decide) ?_
    refine lv_iload_n hx hb dX11_count_152 rfl (lv_at hl 0 rfl) ?_
    refine lv_iadd hx hb dX11_count_153 ?_
    refine gz_ni (v := 35) (by decide) ?_
    refine va_iald hx hb hE.K hP 1 0 rfl rfl (gz_in (by decide)) dX11_count_154 ?_
    refine gz_ni (v := 0) rfl ?_
    refine lv_iadd hx hb dX11_count_155 ?_
    refine gz_ni (v := 0) (by decide) ?_
    refine lv_istore_n (lv' := [(2, .int 0), (3, .int 0), (0, .ref h0), (1, .int 10)]) hx hb dX11_count_156 rfl hl (by decide) rfl (fun ls hl => ?_)
    refine lv_iinc (v := 1) (lv' := [(3, .int 1), (2, .int 0), (0, .ref h0), (1, .int 10)]) hx hb dX11_count_157 hl (k := 1) rfl (by decide) (by decide) rfl (fun ls hl => ?_)
    refine lv_goto (tgt := 139) hx hb dX11_count_160 (by decide) ?_
    refine lv_iload_n hx hb dX11_count_139 rfl (lv_at hl 0 rfl) ?_
    refine lv_bipush (v := 49) hx hb dX11_count_140 (by decide) ?_
    refine lv_icmp_ge (tgt := 163) hx hb dX11_count_142 (by decide) (fun h9 => absurd h9 (by decide)) (fun _ => ?_)
    refine lv_iload_n hx hb dX11_count_145 rfl (lv_at hl 1 rfl) ?_
    refine lv_aload_n hx hb dX11_count_146 rfl (lv_at hl 2 rfl) ?_
    refine va_get (D := G) (ci := 11) (v := .ref (v 20)) (C := RX11) (T := TX11) (N := 44) hx hb hts j_m_count_11 hown hE.K hP 0 rfl rfl 20 (by decide) (hts (.fieldLink RX11 39 "GossamerGateModel" "said" "[I") (List.mem_cons_of_mem _ (List.mem_append_left _ (List.mem_of_getElem? (i := 0) rfl)))) (fun _ h9 => h9) rfl dX11_count_147 ?_
    refine lv_bipush (v := 35) hx hb dX11_count_150 (by decide) ?_
    refine lv_iload_n hx hb dX11_count_152 rfl (lv_at hl 0 rfl) ?_
    refine lv_iadd hx hb dX11_count_153 ?_
    refine gz_ni (v := 36) (by decide) ?_
    refine va_iald hx hb hE.K hP 1 0 rfl rfl (gz_in (by decide)) dX11_count_154 ?_
    refine gz_ni (v := 0) rfl ?_
    refine lv_iadd hx hb dX11_count_155 ?_
    refine gz_ni (v := 0) (by decide) ?_
    refine lv_istore_n (lv' := [(2, .int 0), (3, .int 1), (0, .ref h0), (1, .int 10)]) hx hb dX11_count_156 rfl hl (by decide) rfl (fun ls hl => ?_)
    refine lv_iinc (v := 2) (lv' := [(3, .int 2), (2, .int 0), (0, .ref h0), (1, .int 10)]) hx hb dX11_count_157 hl (k := 1) rfl (by decide) (by decide) rfl (fun ls hl => ?_)
    refine lv_goto (tgt := 139) hx hb dX11_count_160 (by decide) ?_
    refine lv_iload_n hx hb dX11_count_139 rfl (lv_at hl 0 rfl) ?_
    refine lv_bipush (v := 49) hx hb dX11_count_140 (by decide) ?_
    refine lv_icmp_ge (tgt := 163) hx hb dX11_count_142 (by decide) (fun h9 => absurd h9 (by decide)) (fun _ => ?_)
    refine lv_iload_n hx hb dX11_count_145 rfl (lv_at hl 1 rfl) ?_
    refine lv_aload_n hx hb dX11_count_146 rfl (lv_at hl 2 rfl) ?_
    refine va_get (D := G) (ci := 11) (v := .ref (v 20)) (C := RX11) (T := TX11) (N := 44) hx hb hts j_m_count_11 hown hE.K hP 0 rfl rfl 20 (by decide) (hts (.fieldLink RX11 39 "GossamerGateModel" "said" "[I") (List.mem_cons_of_mem _ (List.mem_append_left _ (List.mem_of_getElem? (i := 0) rfl)))) (fun _ h9 => h9) rfl dX11_count_147 ?_
    refine lv_bipush (v := 35) hx hb dX11_count_150 (by decide) ?_
    refine lv_iload_n hx hb dX11_count_152 rfl (lv_at hl 0 rfl) ?_
    refine lv_iadd hx hb dX11_count_153 ?_
    refine gz_ni (v := 37) (by decide) ?_
    refine va_iald hx hb hE.K hP 1 0 rfl rfl (gz_in (by decide)) dX11_count_154 ?_
    refine gz_ni (v := 0) rfl ?_
    refine lv_iadd hx hb dX11_count_155 ?_
    refine gz_ni (v := 0) (by decide) ?_
    refine lv_istore_n (lv' := [(2, .int 0), (3, .int 2), (0, .ref h0), (1, .int 10)]) hx hb dX11_count_156 rfl hl (by decide) rfl (fun ls hl => ?_)
    refine lv_iinc (v := 3) (lv' := [(3, .int 3), (2, .int 0), (0, .ref h0), (1, .int 10)]) hx hb dX11_count_157 hl (k := 1) rfl (by decide) (by decide) rfl (fun ls hl => ?_)
    refine lv_goto (tgt := 139) hx hb dX11_count_160 (by decide) ?_
    refine lv_iload_n hx hb dX11_count_139 rfl (lv_at hl 0 rfl) ?_
    refine lv_bipush (v := 49) hx hb dX11_count_140 (by decide) ?_
    refine lv_icmp_ge (tgt := 163) hx hb dX11_count_142 (by decide) (fun h9 => absurd h9 (by decide)) (fun _ => ?_)
    refine lv_iload_n hx hb dX11_count_145 rfl (lv_at hl 1 rfl) ?_
    refine lv_aload_n hx hb dX11_count_146 rfl (lv_at hl 2 rfl) ?_
    refine va_get (D := G) (ci := 11) (v := .ref (v 20)) (C := RX11) (T := TX11) (N := 44) hx hb hts j_m_count_11 hown hE.K hP 0 rfl rfl 20 (by decide) (hts (.fieldLink RX11 39 "GossamerGateModel" "said" "[I") (List.mem_cons_of_mem _ (List.mem_append_left _ (List.mem_of_getElem? (i := 0) rfl)))) (fun _ h9 => h9) rfl dX11_count_147 ?_
    refine lv_bipush (v := 35) hx hb dX11_count_150 (by decide) ?_
    refine lv_iload_n hx hb dX11_count_152 rfl (lv_at hl 0 rfl) ?_
    refine lv_iadd hx hb dX11_count_153 ?_
    refine gz_ni (v := 38) (by decide) ?_
    refine va_iald hx hb hE.K hP 1 0 rfl rfl (gz_in (by decide)) dX11_count_154 ?_
    refine gz_ni (v := 0) rfl ?_
    refine lv_iadd hx hb dX11_count_155 ?_
    refine gz_ni (v := 0) (by decide) ?_
    refine lv_istore_n (lv' := [(2, .int 0), (3, .int 3), (0, .ref h0), (1, .int 10)]) hx hb dX11_count_156 rfl hl (by decide) rfl (fun ls hl => ?_)
    refine lv_iinc (v := 4) (lv' := [(3, .int 4), (2, .int 0), (0, .ref h0), (1, .int 10)]) hx hb dX11_count_157 hl (k := 1) rfl (by decide) (by decide) rfl (fun ls hl => ?_)
    refine lv_goto (tgt := 139) hx hb dX11_count_160 (by decide) ?_
    refine lv_iload_n hx hb dX11_count_139 rfl (lv_at hl 0 rfl) ?_
    refine lv_bipush (v := 49) hx hb dX11_count_140 (by decide) ?_
    refine lv_icmp_ge (tgt := 163) hx hb dX11_count_142 (by decide) (fun h9 => absurd h9 (by decide)) (fun _ => ?_)
    refine lv_iload_n hx hb dX11_count_145 rfl (lv_at hl 1 rfl) ?_
    refine lv_aload_n hx hb dX11_count_146 rfl (lv_at hl 2 rfl) ?_
    refine va_get (D := G) (ci := 11) (v := .ref (v 20)) (C := RX11) (T := TX11) (N := 44) hx hb hts j_m_count_11 hown hE.K hP 0 rfl rfl 20 (by decide) (hts (.fieldLink RX11 39 "GossamerGateModel" "said" "[I") (List.mem_cons_of_mem _ (List.mem_append_left _ (List.mem_of_getElem? (i := 0) rfl)))) (fun _ h9 => h9) rfl dX11_count_147 ?_
    refine lv_bipush (v := 35) hx hb dX11_count_150 (by decide) ?_
    refine lv_iload_n hx hb dX11_count_152 rfl (lv_at hl 0 rfl) ?_
    refine lv_iadd hx hb dX11_count_153 ?_
    refine gz_ni (v := 39) (by decide) ?_
    refine va_iald hx hb hE.K hP 1 0 rfl rfl (gz_in (by decide)) dX11_count_154 ?_
    refine gz_ni (v := 0) rfl ?_
    refine lv_iadd hx hb dX11_count_155 ?_
    refine gz_ni (v := 0) (by decide) ?_
    refine lv_istore_n (lv' := [(2, .int 0), (3, .int 4), (0, .ref h0), (1, .int 10)]) hx hb dX11_count_156 rfl hl (by decide) rfl (fun ls hl => ?_)
    refine lv_iinc (v := 5) (lv' := [(3, .int 5), (2, .int 0), (0, .ref h0), (1, .int 10)]) hx hb dX11_count_157 hl (k := 1) rfl (by decide) (by decide) rfl (fun ls hl => ?_)
    refine lv_goto (tgt := 139) hx hb dX11_count_160 (by decide) ?_
    refine lv_iload_n hx hb dX11_count_139 rfl (lv_at hl 0 rfl) ?_
    refine lv_bipush (v := 49) hx hb dX11_count_140 (by decide) ?_
    refine lv_icmp_ge (tgt := 163) hx hb dX11_count_142 (by decide) (fun h9 => absurd h9 (by decide)) (fun _ => ?_)
    refine lv_iload_n hx hb dX11_count_145 rfl (lv_at hl 1 rfl) ?_
    refine lv_aload_n hx hb dX11_count_146 rfl (lv_at hl 2 rfl) ?_
    refine va_get (D := G) (ci := 11) (v := .ref (v 20)) (C := RX11) (T := TX11) (N := 44) hx hb hts j_m_count_11 hown hE.K hP 0 rfl rfl 20 (by decide) (hts (.fieldLink RX11 39 "GossamerGateModel" "said" "[I") (List.mem_cons_of_mem _ (List.mem_append_left _ (List.mem_of_getElem? (i := 0) rfl)))) (fun _ h9 => h9) rfl dX11_count_147 ?_
    refine lv_bipush (v := 35) hx hb dX11_count_150 (by decide) ?_
    refine lv_iload_n hx hb dX11_count_152 rfl (lv_at hl 0 rfl) ?_
    refine lv_iadd hx hb dX11_count_153 ?_
    refine gz_ni (v := 40) (by decide) ?_
    refine va_iald hx hb hE.K hP 1 0 rfl rfl (gz_in (by decide)) dX11_count_154 ?_
    refine gz_ni (v := 0) rfl ?_
    refine lv_iadd hx hb dX11_count_155 ?_
    refine gz_ni (v := 0) (by decide) ?_
    refine lv_istore_n (lv' := [(2, .int 0), (3, .int 5), (0, .ref h0), (1, .int 10)]) hx hb dX11_count_156 rfl hl (by decide) rfl (fun ls hl => ?_)
    refine lv_iinc (v := 6) (lv' := [(3, .int 6), (2, .int 0), (0, .ref h0), (1, .int 10)]) hx hb dX11_count_157 hl (k := 1) rfl (by decide) (by decide) rfl (fun ls hl => ?_)
    refine lv_goto (tgt := 139) hx hb dX11_count_160 (by decide) ?_
    refine lv_iload_n hx hb dX11_count_139 rfl (lv_at hl 0 rfl) ?_
    refine lv_bipush (v := 49) hx hb dX11_count_140 (by decide) ?_
    refine lv_icmp_ge (tgt := 163) hx hb dX11_count_142 (by decide) (fun h9 => absurd h9 (by decide)) (fun _ => ?_)
    refine lv_iload_n hx hb dX11_count_145 rfl (lv_at hl 1 rfl) ?_
    refine lv_aload_n hx hb dX11_count_146 rfl (lv_at hl 2 rfl) ?_
    refine va_get (D := G) (ci := 11) (v := .ref (v 20)) (C := RX11) (T := TX11) (N := 44) hx hb hts j_m_count_11 hown hE.K hP 0 rfl rfl 20 (by decide) (hts (.fieldLink RX11 39 "GossamerGateModel" "said" "[I") (List.mem_cons_of_mem _ (List.mem_append_left _ (List.mem_of_getElem? (i := 0) rfl)))) (fun _ h9 => h9) rfl dX11_count_147 ?_
    refine lv_bipush (v := 35) hx hb dX11_count_150 (by decide) ?_
    refine lv_iload_n hx hb dX11_count_152 rfl (lv_at hl 0 rfl) ?_
    refine lv_iadd hx hb dX11_count_153 ?_
    refine gz_ni (v := 41) (by decide) ?_
    refine va_iald hx hb hE.K hP 1 0 rfl rfl (gz_in (by decide)) dX11_count_154 ?_
    refine gz_ni (v := 0) rfl ?_
    refine lv_iadd hx hb dX11_count_155 ?_
    refine gz_ni (v := 0) (by decide) ?_
    refine lv_istore_n (lv' := [(2, .int 0), (3, .int 6), (0, .ref h0), (1, .int 10)]) hx hb dX11_count_156 rfl hl (by decide) rfl (fun ls hl => ?_)
    refine lv_iinc (v := 7) (lv' := [(3, .int 7), (2, .int 0), (0, .ref h0), (1, .int 10)]) hx hb dX11_count_157 hl (k := 1) rfl (by decide) (by decide) rfl (fun ls hl => ?_)
    refine lv_goto (tgt := 139) hx hb dX11_count_160 (by decide) ?_
    refine lv_iload_n hx hb dX11_count_139 rfl (lv_at hl 0 rfl) ?_
    refine lv_bipush (v := 49) hx hb dX11_count_140 (by decide) ?_
    refine lv_icmp_ge (tgt := 163) hx hb dX11_count_142 (by decide) (fun h9 => absurd h9 (by decide)) (fun _ => ?_)
    refine lv_iload_n hx hb dX11_count_145 rfl (lv_at hl 1 rfl) ?_
    refine lv_aload_n hx hb dX11_count_146 rfl (lv_at hl 2 rfl) ?_
    refine va_get (D := G) (ci := 11) (v := .ref (v 20)) (C := RX11) (T := TX11) (N := 44) hx hb hts j_m_count_11 hown hE.K hP 0 rfl rfl 20 (by decide) (hts (.fieldLink RX11 39 "GossamerGateModel" "said" "[I") (List.mem_cons_of_mem _ (List.mem_append_left _ (List.mem_of_getElem? (i := 0) rfl)))) (fun _ h9 => h9) rfl dX11_count_147 ?_
    refine lv_bipush (v := 35) hx hb dX11_count_150 (by decide) ?_
    refine lv_iload_n hx hb dX11_count_152 rfl (lv_at hl 0 rfl) ?_
    refine lv_iadd hx hb dX11_count_153 ?_
    refine gz_ni (v := 42) (by decide) ?_
    refine va_iald hx hb hE.K hP 1 0 rfl rfl (gz_in (by decide)) dX11_count_154 ?_
    refine gz_ni (v := 0) rfl ?_
    refine lv_iadd hx hb dX11_count_155 ?_
    refine gz_ni (v := 0) (by decide) ?_
    refine lv_istore_n (lv' := [(2, .int 0), (3, .int 7), (0, .ref h0), (1, .int 10)]) hx hb dX11_count_156 rfl hl (by decide) rfl (fun ls hl => ?_)
    refine lv_iinc (v := 8) (lv' := [(3, .int 8), (2, .int 0), (0, .ref h0), (1, .int 10)]) hx hb dX11_count_157 hl (k := 1) rfl (by decide) (by decide) rfl (fun ls hl => ?_)
    refine lv_goto (tgt := 139) hx hb dX11_count_160 (by decide) ?_
    refine lv_iload_n hx hb dX11_count_139 rfl (lv_at hl 0 rfl) ?_
    refine lv_bipush (v := 49) hx hb dX11_count_140 (by decide) ?_
    refine lv_icmp_ge (tgt := 163) hx hb dX11_count_142 (by decide) (fun h9 => absurd h9 (by decide)) (fun _ => ?_)
    refine lv_iload_n hx hb dX11_count_145 rfl (lv_at hl 1 rfl) ?_
    refine lv_aload_n hx hb dX11_count_146 rfl (lv_at hl 2 rfl) ?_
    refine va_get (D := G) (ci := 11) (v := .ref (v 20)) (C := RX11) (T := TX11) (N := 44) hx hb hts j_m_count_11 hown hE.K hP 0 rfl rfl 20 (by decide) (hts (.fieldLink RX11 39 "GossamerGateModel" "said" "[I") (List.mem_cons_of_mem _ (List.mem_append_left _ (List.mem_of_getElem? (i := 0) rfl)))) (fun _ h9 => h9) rfl dX11_count_147 ?_
    refine lv_bipush (v := 35) hx hb dX11_count_150 (by decide) ?_
    refine lv_iload_n hx hb dX11_count_152 rfl (lv_at hl 0 rfl) ?_
    refine lv_iadd hx hb dX11_count_153 ?_
    refine gz_ni (v := 43) (by decide) ?_
    refine va_iald hx hb hE.K hP 1 0 rfl rfl (gz_in (by decide)) dX11_count_154 ?_
    refine gz_ni (v := 0) rfl ?_
    refine lv_iadd hx hb dX11_count_155 ?_
    refine gz_ni (v := 0) (by decide) ?_
    refine lv_istore_n (lv' := [(2, .int 0), (3, .int 8), (0, .ref h0), (1, .int 10)]) hx hb dX11_count_156 rfl hl (by decide) rfl (fun ls hl => ?_)
    refine lv_iinc (v := 9) (lv' := [(3, .int 9), (2, .int 0), (0, .ref h0), (1, .int 10)]) hx hb dX11_count_157 hl (k := 1) rfl (by decide) (by decide) rfl (fun ls hl => ?_)
    refine lv_goto (tgt := 139) hx hb dX11_count_160 (by decide) ?_
    refine lv_iload_n hx hb dX11_count_139 rfl (lv_at hl 0 rfl) ?_
    refine lv_bipush (v := 49) hx hb dX11_count_140 (by decide) ?_
    refine lv_icmp_ge (tgt := 163) hx hb dX11_count_142 (by decide) (fun h9 => absurd h9 (by decide)) (fun _ => ?_)
    refine lv_iload_n hx hb dX11_count_145 rfl (lv_at hl 1 rfl) ?_
    refine lv_aload_n hx hb dX11_count_146 rfl (lv_at hl 2 rfl) ?_
    refine va_get (D := G) (ci := 11) (v := .ref (v 20)) (C := RX11) (T := TX11) (N := 44) hx hb hts j_m_count_11 hown hE.K hP 0 rfl rfl 20 (by decide) (hts (.fieldLink RX11 39 "GossamerGateModel" "said" "[I") (List.mem_cons_of_mem _ (List.mem_append_left _ (List.mem_of_getElem? (i := 0) rfl)))) (fun _ h9 => h9) rfl dX11_count_147 ?_
    refine lv_bipush (v := 35) hx hb dX11_count_150 (by decide) ?_
    refine lv_iload_n hx hb dX11_count_152 rfl (lv_at hl 0 rfl) ?_
    refine lv_iadd hx hb dX11_count_153 ?_
    refine gz_ni (v := 44) (by decide) ?_
    refine va_iald hx hb hE.K hP 1 0 rfl rfl (gz_in (by decide)) dX11_count_154 ?_
    refine gz_ni (v := 0) rfl ?_
    refine lv_iadd hx hb dX11_count_155 ?_
    refine gz_ni (v := 0) (by decide) ?_
    refine lv_istore_n (lv' := [(2, .int 0), (3, .int 9), (0, .ref h0), (1, .int 10)]) hx hb dX11_count_156 rfl hl (by decide) rfl (fun ls hl => ?_)
    refine lv_iinc (v := 10) (lv' := [(3, .int 10), (2, .int 0), (0, .ref h0), (1, .int 10)]) hx hb dX11_count_157 hl (k := 1) rfl (by decide) (by decide) rfl (fun ls hl => ?_)
    refine lv_goto (tgt := 139) hx hb dX11_count_160 (by decide) ?_
    refine lv_iload_n hx hb dX11_count_139 rfl (lv_at hl 0 rfl) ?_
    refine lv_bipush (v := 49) hx hb dX11_count_140 (by decide) ?_
    refine lv_icmp_ge (tgt := 163) hx hb dX11_count_142 (by decide) (fun h9 => absurd h9 (by decide)) (fun _ => ?_)
    refine lv_iload_n hx hb dX11_count_145 rfl (lv_at hl 1 rfl) ?_
    refine lv_aload_n hx hb dX11_count_146 rfl (lv_at hl 2 rfl) ?_
    refine va_get (D := G) (ci := 11) (v := .ref (v 20)) (C := RX11) (T := TX11) (N := 44) hx hb hts j_m_count_11 hown hE.K hP 0 rfl rfl 20 (by decide) (hts (.fieldLink RX11 39 "GossamerGateModel" "said" "[I") (List.mem_cons_of_mem _ (List.mem_append_left _ (List.mem_of_getElem? (i := 0) rfl)))) (fun _ h9 => h9) rfl dX11_count_147 ?_
    refine lv_bipush (v := 35) hx hb dX11_count_150 (by decide) ?_
    refine lv_iload_n hx hb dX11_count_152 rfl (lv_at hl 0 rfl) ?_
    refine lv_iadd hx hb dX11_count_153 ?_
    refine gz_ni (v := 45) (by decide) ?_
    refine va_iald hx hb hE.K hP 1 0 rfl rfl (gz_in (by decide)) dX11_count_154 ?_
    refine gz_ni (v := 0) rfl ?_
    refine lv_iadd hx hb dX11_count_155 ?_
    refine gz_ni (v := 0) (by decide) ?_
    refine lv_istore_n (lv' := [(2, .int 0), (3, .int 10), (0, .ref h0), (1, .int 10)]) hx hb dX11_count_156 rfl hl (by decide) rfl (fun ls hl => ?_)
    refine lv_iinc (v := 11) (lv' := [(3, .int 11), (2, .int 0), (0, .ref h0), (1, .int 10)]) hx hb dX11_count_157 hl (k := 1) rfl (by decide) (by decide) rfl (fun ls hl => ?_)
    refine lv_goto (tgt := 139) hx hb dX11_count_160 (by decide) ?_
    refine lv_iload_n hx hb dX11_count_139 rfl (lv_at hl 0 rfl) ?_
    refine lv_bipush (v := 49) hx hb dX11_count_140 (by decide) ?_
    refine lv_icmp_ge (tgt := 163) hx hb dX11_count_142 (by decide) (fun h9 => absurd h9 (by decide)) (fun _ => ?_)
    refine lv_iload_n hx hb dX11_count_145 rfl (lv_at hl 1 rfl) ?_
    refine lv_aload_n hx hb dX11_count_146 rfl (lv_at hl 2 rfl) ?_
    refine va_get (D := G) (ci := 11) (v := .ref (v 20)) (C := RX11) (T := TX11) (N := 44) hx hb hts j_m_count_11 hown hE.K hP 0 rfl rfl 20 (by decide) (hts (.fieldLink RX11 39 "GossamerGateModel" "said" "[I") (List.mem_cons_of_mem _ (List.mem_append_left _ (List.mem_of_getElem? (i := 0) rfl)))) (fun _ h9 => h9) rfl dX11_count_147 ?_
    refine lv_bipush (v := 35) hx hb dX11_count_150 (by decide) ?_
    refine lv_iload_n hx hb dX11_count_152 rfl (lv_at hl 0 rfl) ?_
    refine lv_iadd hx hb dX11_count_153 ?_
    refine gz_ni (v := 46) (by decide) ?_
    refine va_iald hx hb hE.K hP 1 0 rfl rfl (gz_in (by decide)) dX11_count_154 ?_
    refine gz_ni (v := 0) rfl ?_
    refine lv_iadd hx hb dX11_count_155 ?_
    refine gz_ni (v := 0) (by decide) ?_
    refine lv_istore_n (lv' := [(2, .int 0), (3, .int 11), (0, .ref h0), (1, .int 10)]) hx hb dX11_count_156 rfl hl (by decide) rfl (fun ls hl => ?_)
    refine lv_iinc (v := 12) (lv' := [(3, .int 12), (2, .int 0), (0, .ref h0), (1, .int 10)]) hx hb dX11_count_157 hl (k := 1) rfl (by decide) (by decide) rfl (fun ls hl => ?_)
    refine lv_goto (tgt := 139) hx hb dX11_count_160 (by decide) ?_
    refine lv_iload_n hx hb dX11_count_139 rfl (lv_at hl 0 rfl) ?_
    refine lv_bipush (v := 49) hx hb dX11_count_140 (by decide) ?_
    refine lv_icmp_ge (tgt := 163) hx hb dX11_count_142 (by decide) (fun h9 => absurd h9 (by decide)) (fun _ => ?_)
    refine lv_iload_n hx hb dX11_count_145 rfl (lv_at hl 1 rfl) ?_
    refine lv_aload_n hx hb dX11_count_146 rfl (lv_at hl 2 rfl) ?_
    refine va_get (D := G) (ci := 11) (v := .ref (v 20)) (C := RX11) (T := TX11) (N := 44) hx hb hts j_m_count_11 hown hE.K hP 0 rfl rfl 20 (by decide) (hts (.fieldLink RX11 39 "GossamerGateModel" "said" "[I") (List.mem_cons_of_mem _ (List.mem_append_left _ (List.mem_of_getElem? (i := 0) rfl)))) (fun _ h9 => h9) rfl dX11_count_147 ?_
    refine lv_bipush (v := 35) hx hb dX11_count_150 (by decide) ?_
    refine lv_iload_n hx hb dX11_count_152 rfl (lv_at hl 0 rfl) ?_
    refine lv_iadd hx hb dX11_count_153 ?_
    refine gz_ni (v := 47) (by decide) ?_
    refine va_iald hx hb hE.K hP 1 0 rfl rfl (gz_in (by decide)) dX11_count_154 ?_
    refine gz_ni (v := 0) rfl ?_
    refine lv_iadd hx hb dX11_count_155 ?_
    refine gz_ni (v := 0) (by decide) ?_
    refine lv_istore_n (lv' := [(2, .int 0), (3, .int 12), (0, .ref h0), (1, .int 10)]) hx hb dX11_count_156 rfl hl (by decide) rfl (fun ls hl => ?_)
    refine lv_iinc (v := 13) (lv' := [(3, .int 13), (2, .int 0), (0, .ref h0), (1, .int 10)]) hx hb dX11_count_157 hl (k := 1) rfl (by decide) (by decide) rfl (fun ls hl => ?_)
    refine lv_goto (tgt := 139) hx hb dX11_count_160 (by decide) ?_
    refine lv_iload_n hx hb dX11_count_139 rfl (lv_at hl 0 rfl) ?_
    refine lv_bipush (v := 49) hx hb dX11_count_140 (by decide) ?_
    refine lv_icmp_ge (tgt := 163) hx hb dX11_count_142 (by decide) (fun h9 => absurd h9 (by decide)) (fun _ => ?_)
    refine lv_iload_n hx hb dX11_count_145 rfl (lv_at hl 1 rfl) ?_
    refine lv_aload_n hx hb dX11_count_146 rfl (lv_at hl 2 rfl) ?_
    refine va_get (D := G) (ci := 11) (v := .ref (v 20)) (C := RX11) (T := TX11) (N := 44) hx hb hts j_m_count_11 hown hE.K hP 0 rfl rfl 20 (by decide) (hts (.fieldLink RX11 39 "GossamerGateModel" "said" "[I") (List.mem_cons_of_mem _ (List.mem_append_left _ (List.mem_of_getElem? (i := 0) rfl)))) (fun _ h9 => h9) rfl dX11_count_147 ?_
    refine lv_bipush (v := 35) hx hb dX11_count_150 (by decide) ?_
    refine lv_iload_n hx hb dX11_count_152 rfl (lv_at hl 0 rfl) ?_
    refine lv_iadd hx hb dX11_count_153 ?_
    refine gz_ni (v := 48) (by decide) ?_
    refine va_iald hx hb hE.K hP 1 0 rfl rfl (gz_in (by decide)) dX11_count_154 ?_
    refine gz_ni (v := 0) rfl ?_
    refine lv_iadd hx hb dX11_count_155 ?_
    refine gz_ni (v := 0) (by decide) ?_
    refine lv_istore_n (lv' := [(2, .int 0), (3, .int 13), (0, .ref h0), (1, .int 10)]) hx hb dX11_count_156 rfl hl (by decide) rfl (fun ls hl => ?_)
    refine lv_iinc (v := 14) (lv' := [(3, .int 14), (2, .int 0), (0, .ref h0), (1, .int 10)]) hx hb dX11_count_157 hl (k := 1) rfl (by decide) (by decide) rfl (fun ls hl => ?_)
    refine lv_goto (tgt := 139) hx hb dX11_count_160 (by decide) ?_
    refine lv_iload_n hx hb dX11_count_139 rfl (lv_at hl 0 rfl) ?_
    refine lv_bipush (v := 49) hx hb dX11_count_140 (by decide) ?_
    refine lv_icmp_ge (tgt := 163) hx hb dX11_count_142 (by decide) (fun h9 => absurd h9 (by decide)) (fun _ => ?_)
    refine lv_iload_n hx hb dX11_count_145 rfl (lv_at hl 1 rfl) ?_
    refine lv_aload_n hx hb dX11_count_146 rfl (lv_at hl 2 rfl) ?_
    refine va_get (D := G) (ci := 11) (v := .ref (v 20)) (C := RX11) (T := TX11) (N := 44) hx hb hts j_m_count_11 hown hE.K hP 0 rfl rfl 20 (by decide) (hts (.fieldLink RX11 39 "GossamerGateModel" "said" "[I") (List.mem_cons_of_mem _ (List.mem_append_left _ (List.mem_of_getElem? (i := 0) rfl)))) (fun _ h9 => h9) rfl dX11_count_147 ?_
    refine lv_bipush (v := 35) hx hb dX11_count_150 (by decide) ?_
    refine lv_iload_n hx hb dX11_count_152 rfl (lv_at hl 0 rfl) ?_
    refine lv_iadd hx hb dX11_count_153 ?_
    refine gz_ni (v := 49) (by decide) ?_
    refine va_iald hx hb hE.K hP 1 0 rfl rfl (gz_in (by decide)) dX11_count_154 ?_
    refine gz_ni (v := 0) rfl ?_
    refine lv_iadd hx hb dX11_count_155 ?_
    refine gz_ni (v := 0) (by decide) ?_
    refine lv_istore_n (lv' := [(2, .int 0), (3, .int 14), (0, .ref h0), (1, .int 10)]) hx hb dX11_count_156 rfl hl (by decide) rfl (fun ls hl => ?_)
    refine lv_iinc (v := 15) (lv' := [(3, .int 15), (2, .int 0), (0, .ref h0), (1, .int 10)]) hx hb dX11_count_157 hl (k := 1) rfl (by decide) (by decide) rfl (fun ls hl => ?_)
    refine lv_goto (tgt := 139) hx hb dX11_count_160 (by decide) ?_
    refine lv_iload_n hx hb dX11_count_139 rfl (lv_at hl 0 rfl) ?_
    refine lv_bipush (v := 49) hx hb dX11_count_140 (by decide) ?_
    refine lv_icmp_ge (tgt := 163) hx hb dX11_count_142 (by decide) (fun h9 => absurd h9 (by decide)) (fun _ => ?_)
    refine lv_iload_n hx hb dX11_count_145 rfl (lv_at hl 1 rfl) ?_
    refine lv_aload_n hx hb dX11_count_146 rfl (lv_at hl 2 rfl) ?_
    refine va_get (D := G) (ci := 11) (v := .ref (v 20)) (C := RX11) (T := TX11) (N := 44) hx hb hts j_m_count_11 hown hE.K hP 0 rfl rfl 20 (by decide) (hts (.fieldLink RX11 39 "GossamerGateModel" "said" "[I") (List.mem_cons_of_mem _ (List.mem_append_left _ (List.mem_of_getElem? (i := 0) rfl)))) (fun _ h9 => h9) rfl dX11_count_147 ?_
    refine lv_bipush (v := 35) hx hb dX11_count_150 (by decide) ?_
    refine lv_iload_n hx hb dX11_count_152 rfl (lv_at hl 0 rfl) ?_
    refine lv_iadd hx hb dX11_count_153 ?_
    refine gz_ni (v := 50) (by decide) ?_
    refine va_iald hx hb hE.K hP 1 0 rfl rfl (gz_in (by decide)) dX11_count_154 ?_
    refine gz_ni (v := 0) rfl ?_
    refine lv_iadd hx hb dX11_count_155 ?_
    refine gz_ni (v := 0) (by decide) ?_
    refine lv_istore_n (lv' := [(2, .int 0), (3, .int 15), (0, .ref h0), (1, .int 10)]) hx hb dX11_count_156 rfl hl (by decide) rfl (fun ls hl => ?_)
    refine lv_iinc (v := 16) (lv' := [(3, .int 16), (2, .int 0), (0, .ref h0), (1, .int 10)]) hx hb dX11_count_157 hl (k := 1) rfl (by decide) (by decide) rfl (fun ls hl => ?_)
    refine lv_goto (tgt := 139) hx hb dX11_count_160 (by decide) ?_
    refine lv_iload_n hx hb dX11_count_139 rfl (lv_at hl 0 rfl) ?_
    refine lv_bipush (v := 49) hx hb dX11_count_140 (by decide) ?_
    refine lv_icmp_ge (tgt := 163) hx hb dX11_count_142 (by decide) (fun h9 => absurd h9 (by decide)) (fun _ => ?_)
    refine lv_iload_n hx hb dX11_count_145 rfl (lv_at hl 1 rfl) ?_
    refine lv_aload_n hx hb dX11_count_146 rfl (lv_at hl 2 rfl) ?_
    refine va_get (D := G) (ci := 11) (v := .ref (v 20)) (C := RX11) (T := TX11) (N := 44) hx hb hts j_m_count_11 hown hE.K hP 0 rfl rfl 20 (by decide) (hts (.fieldLink RX11 39 "GossamerGateModel" "said" "[I") (List.mem_cons_of_mem _ (List.mem_append_left _ (List.mem_of_getElem? (i := 0) rfl)))) (fun _ h9 => h9) rfl dX11_count_147 ?_
    refine lv_bipush (v := 35) hx hb dX11_count_150 (by decide) ?_
    refine lv_iload_n hx hb dX11_count_152 rfl (lv_at hl 0 rfl) ?_
    refine lv_iadd hx hb dX11_count_153 ?_
    refine gz_ni (v := 51) (by decide) ?_
    refine va_iald hx hb hE.K hP 1 0 rfl rfl (gz_in (by decide)) dX11_count_154 ?_
    refine gz_ni (v := 0) rfl ?_
    refine lv_iadd hx hb dX11_count_155 ?_
    refine gz_ni (v := 0) (by decide) ?_
    refine lv_istore_n (lv' := [(2, .int 0), (3, .int 16), (0, .ref h0), (1, .int 10)]) hx hb dX11_count_156 rfl hl (by decide) rfl (fun ls hl => ?_)
    refine lv_iinc (v := 17) (lv' := [(3, .int 17), (2, .int 0), (0, .ref h0), (1, .int 10)]) hx hb dX11_count_157 hl (k := 1) rfl (by decide) (by decide) rfl (fun ls hl => ?_)
    refine lv_goto (tgt := 139) hx hb dX11_count_160 (by decide) ?_
    refine lv_iload_n hx hb dX11_count_139 rfl (lv_at hl 0 rfl) ?_
    refine lv_bipush (v := 49) hx hb dX11_count_140 (by decide) ?_
    refine lv_icmp_ge (tgt := 163) hx hb dX11_count_142 (by decide) (fun h9 => absurd h9 (by decide)) (fun _ => ?_)
    refine lv_iload_n hx hb dX11_count_145 rfl (lv_at hl 1 rfl) ?_
    refine lv_aload_n hx hb dX11_count_146 rfl (lv_at hl 2 rfl) ?_
    refine va_get (D := G) (ci := 11) (v := .ref (v 20)) (C := RX11) (T := TX11) (N := 44) hx hb hts j_m_count_11 hown hE.K hP 0 rfl rfl 20 (by decide) (hts (.fieldLink RX11 39 "GossamerGateModel" "said" "[I") (List.mem_cons_of_mem _ (List.mem_append_left _ (List.mem_of_getElem? (i := 0) rfl)))) (fun _ h9 => h9) rfl dX11_count_147 ?_
    refine lv_bipush (v := 35) hx hb dX11_count_150 (by decide) ?_
    refine lv_iload_n hx hb dX11_count_152 rfl (lv_at hl 0 rfl) ?_
    refine lv_iadd hx hb dX11_count_153 ?_
    refine gz_ni (v := 52) (by decide) ?_
    refine va_iald hx hb hE.K hP 1 0 rfl rfl (gz_in (by decide)) dX11_count_154 ?_
    refine gz_ni (v := 0) rfl ?_
    refine lv_iadd hx hb dX11_count_155 ?_
    refine gz_ni (v := 0) (by decide) ?_
    refine lv_istore_n (lv' := [(2, .int 0), (3, .int 17), (0, .ref h0), (1, .int 10)]) hx hb dX11_count_156 rfl hl (by decide) rfl (fun ls hl => ?_)
    refine lv_iinc (v := 18) (lv' := [(3, .int 18), (2, .int 0), (0, .ref h0), (1, .int 10)]) hx hb dX11_count_157 hl (k := 1) rfl (by decide) (by decide) rfl (fun ls hl => ?_)
    refine lv_goto (tgt := 139) hx hb dX11_count_160 (by decide) ?_
    refine lv_iload_n hx hb dX11_count_139 rfl (lv_at hl 0 rfl) ?_
    refine lv_bipush (v := 49) hx hb dX11_count_140 (by decide) ?_
    refine lv_icmp_ge (tgt := 163) hx hb dX11_count_142 (by decide) (fun h9 => absurd h9 (by decide)) (fun _ => ?_)
    refine lv_iload_n hx hb dX11_count_145 rfl (lv_at hl 1 rfl) ?_
    refine lv_aload_n hx hb dX11_count_146 rfl (lv_at hl 2 rfl) ?_
    refine va_get (D := G) (ci := 11) (v := .ref (v 20)) (C := RX11) (T := TX11) (N := 44) hx hb hts j_m_count_11 hown hE.K hP 0 rfl rfl 20 (by decide) (hts (.fieldLink RX11 39 "GossamerGateModel" "said" "[I") (List.mem_cons_of_mem _ (List.mem_append_left _ (List.mem_of_getElem? (i := 0) rfl)))) (fun _ h9 => h9) rfl dX11_count_147 ?_
    refine lv_bipush (v := 35) hx hb dX11_count_150 (by decide) ?_
    refine lv_iload_n hx hb dX11_count_152 rfl (lv_at hl 0 rfl) ?_
    refine lv_iadd hx hb dX11_count_153 ?_
    refine gz_ni (v := 53) (by decide) ?_
    refine va_iald hx hb hE.K hP 1 0 rfl rfl (gz_in (by decide)) dX11_count_154 ?_
    refine gz_ni (v := 0) rfl ?_
    refine lv_iadd hx hb dX11_count_155 ?_
    refine gz_ni (v := 0) (by decide) ?_
    refine lv_istore_n (lv' := [(2, .int 0), (3, .int 18), (0, .ref h0), (1, .int 10)]) hx hb dX11_count_156 rfl hl (by decide) rfl (fun ls hl => ?_)
    refine lv_iinc (v := 19) (lv' := [(3, .int 19), (2, .int 0), (0, .ref h0), (1, .int 10)]) hx hb dX11_count_157 hl (k := 1) rfl (by decide) (by decide) rfl (fun ls hl => ?_)
    refine lv_goto (tgt := 139) hx hb dX11_count_160 (by decide) ?_
    refine lv_iload_n hx hb dX11_count_139 rfl (lv_at hl 0 rfl) ?_
    refine lv_bipush (v := 49) hx hb dX11_count_140 (by decide) ?_
    refine lv_icmp_ge (tgt := 163) hx hb dX11_count_142 (by decide) (fun h9 => absurd h9 (by decide)) (fun _ => ?_)
    refine lv_iload_n hx hb dX11_count_145 rfl (lv_at hl 1 rfl) ?_
    refine lv_aload_n hx hb dX11_count_146 rfl (lv_at hl 2 rfl) ?_
    refine va_get (D := G) (ci := 11) (v := .ref (v 20)) (C := RX11) (T := TX11) (N := 44) hx hb hts j_m_count_11 hown hE.K hP 0 rfl rfl 20 (by decide) (hts (.fieldLink RX11 39 "GossamerGateModel" "said" "[I") (List.mem_cons_of_mem _ (List.mem_append_left _ (List.mem_of_getElem? (i := 0) rfl)))) (fun _ h9 => h9) rfl dX11_count_147 ?_
    refine lv_bipush (v := 35) hx hb dX11_count_150 (by decide) ?_
    refine lv_iload_n hx hb dX11_count_152 rfl (lv_at hl 0 rfl) ?_
    refine lv_iadd hx hb dX11_count_153 ?_
    refine gz_ni (v := 54) (by decide) ?_
    refine va_iald hx hb hE.K hP 1 0 rfl rfl (gz_in (by decide)) dX11_count_154 ?_
    refine gz_ni (v := 0) rfl ?_
    refine lv_iadd hx hb dX11_count_155 ?_
    refine gz_ni (v := 0) (by decide) ?_
    refine lv_istore_n (lv' := [(2, .int 0), (3, .int 19), (0, .ref h0), (1, .int 10)]) hx hb dX11_count_156 rfl hl (by decide) rfl (fun ls hl => ?_)
    refine lv_iinc (v := 20) (lv' := [(3, .int 20), (2, .int 0), (0, .ref h0), (1, .int 10)]) hx hb dX11_count_157 hl (k := 1) rfl (by decide) (by decide) rfl (fun ls hl => ?_)
    refine lv_goto (tgt := 139) hx hb dX11_count_160 (by decide) ?_
    refine lv_iload_n hx hb dX11_count_139 rfl (lv_at hl 0 rfl) ?_
    refine lv_bipush (v := 49) hx hb dX11_count_140 (by decide) ?_
    refine lv_icmp_ge (tgt := 163) hx hb dX11_count_142 (by decide) (fun h9 => absurd h9 (by decide)) (fun _ => ?_)
    refine lv_iload_n hx hb dX11_count_145 rfl (lv_at hl 1 rfl) ?_
    refine lv_aload_n hx hb dX11_count_146 rfl (lv_at hl 2 rfl) ?_
    refine va_get (D := G) (ci := 11) (v := .ref (v 20)) (C := RX11) (T := TX11) (N := 44) hx hb hts j_m_count_11 hown hE.K hP 0 rfl rfl 20 (by decide) (hts (.fieldLink RX11 39 "GossamerGateModel" "said" "[I") (List.mem_cons_of_mem _ (List.mem_append_left _ (List.mem_of_getElem? (i := 0) rfl)))) (fun _ h9 => h9) rfl dX11_count_147 ?_
    refine lv_bipush (v := 35) hx hb dX11_count_150 (by decide) ?_
    refine lv_iload_n hx hb dX11_count_152 rfl (lv_at hl 0 rfl) ?_
    refine lv_iadd hx hb dX11_count_153 ?_
    refine gz_ni (v := 55) (by decide) ?_
    refine va_iald hx hb hE.K hP 1 0 rfl rfl (gz_in (by decide)) dX11_count_154 ?_
    refine gz_ni (v := 0) rfl ?_
    refine lv_iadd hx hb dX11_count_155 ?_
    refine gz_ni (v := 0) (by decide) ?_
    refine lv_istore_n (lv' := [(2, .int 0), (3, .int 20), (0, .ref h0), (1, .int 10)]) hx hb dX11_count_156 rfl hl (by decide) rfl (fun ls hl => ?_)
    refine lv_iinc (v := 21) (lv' := [(3, .int 21), (2, .int 0), (0, .ref h0), (1, .int 10)]) hx hb dX11_count_157 hl (k := 1) rfl (by decide) (by decide) rfl (fun ls hl => ?_)
    refine lv_goto (tgt := 139) hx hb dX11_count_160 (by decide) ?_
    refine lv_iload_n hx hb dX11_count_139 rfl (lv_at hl 0 rfl) ?_
    refine lv_bipush (v := 49) hx hb dX11_count_140 (by decide) ?_
    refine lv_icmp_ge (tgt := 163) hx hb dX11_count_142 (by decide) (fun h9 => absurd h9 (by decide)) (fun _ => ?_)
    refine lv_iload_n hx hb dX11_count_145 rfl (lv_at hl 1 rfl) ?_
    refine lv_aload_n hx hb dX11_count_146 rfl (lv_at hl 2 rfl) ?_
    refine va_get (D := G) (ci := 11) (v := .ref (v 20)) (C := RX11) (T := TX11) (N := 44) hx hb hts j_m_count_11 hown hE.K hP 0 rfl rfl 20 (by decide) (hts (.fieldLink RX11 39 "GossamerGateModel" "said" "[I") (List.mem_cons_of_mem _ (List.mem_append_left _ (List.mem_of_getElem? (i := 0) rfl)))) (fun _ h9 => h9) rfl dX11_count_147 ?_
    refine lv_bipush (v := 35) hx hb dX11_count_150 (by decide) ?_
    refine lv_iload_n hx hb dX11_count_152 rfl (lv_at hl 0 rfl) ?_
    refine lv_iadd hx hb dX11_count_153 ?_
    refine gz_ni (v := 56) (by decide) ?_
    refine va_iald hx hb hE.K hP 1 0 rfl rfl (gz_in (by decide)) dX11_count_154 ?_
    refine gz_ni (v := 0) rfl ?_
    refine lv_iadd hx hb dX11_count_155 ?_
    refine gz_ni (v := 0) (by decide) ?_
    refine lv_istore_n (lv' := [(2, .int 0), (3, .int 21), (0, .ref h0), (1, .int 10)]) hx hb dX11_count_156 rfl hl (by decide) rfl (fun ls hl => ?_)
    refine lv_iinc (v := 22) (lv' := [(3, .int 22), (2, .int 0), (0, .ref h0), (1, .int 10)]) hx hb dX11_count_157 hl (k := 1) rfl (by decide) (by decide) rfl (fun ls hl => ?_)
    refine lv_goto (tgt := 139) hx hb dX11_count_160 (by decide) ?_
    refine lv_iload_n hx hb dX11_count_139 rfl (lv_at hl 0 rfl) ?_
    refine lv_bipush (v := 49) hx hb dX11_count_140 (by decide) ?_
    refine lv_icmp_ge (tgt := 163) hx hb dX11_count_142 (by decide) (fun h9 => absurd h9 (by decide)) (fun _ => ?_)
    refine lv_iload_n hx hb dX11_count_145 rfl (lv_at hl 1 rfl) ?_
    refine lv_aload_n hx hb dX11_count_146 rfl (lv_at hl 2 rfl) ?_
    refine va_get (D := G) (ci := 11) (v := .ref (v 20)) (C := RX11) (T := TX11) (N := 44) hx hb hts j_m_count_11 hown hE.K hP 0 rfl rfl 20 (by decide) (hts (.fieldLink RX11 39 "GossamerGateModel" "said" "[I") (List.mem_cons_of_mem _ (List.mem_append_left _ (List.mem_of_getElem? (i := 0) rfl)))) (fun _ h9 => h9) rfl dX11_count_147 ?_
    refine lv_bipush (v := 35) hx hb dX11_count_150 (by decide) ?_
    refine lv_iload_n hx hb dX11_count_152 rfl (lv_at hl 0 rfl) ?_
    refine lv_iadd hx hb dX11_count_153 ?_
    refine gz_ni (v := 57) (by decide) ?_
    refine va_iald hx hb hE.K hP 1 0 rfl rfl (gz_in (by decide)) dX11_count_154 ?_
    refine gz_ni (v := 0) rfl ?_
    refine lv_iadd hx hb dX11_count_155 ?_
    refine gz_ni (v := 0) (by decide) ?_
    refine lv_istore_n (lv' := [(2, .int 0), (3, .int 22), (0, .ref h0), (1, .int 10)]) hx hb dX11_count_156 rfl hl (by decide) rfl (fun ls hl => ?_)
    refine lv_iinc (v := 23) (lv' := [(3, .int 23), (2, .int 0), (0, .ref h0), (1, .int 10)]) hx hb dX11_count_157 hl (k := 1) rfl (by decide) (by decide) rfl (fun ls hl => ?_)
    refine lv_goto (tgt := 139) hx hb dX11_count_160 (by decide) ?_
    refine lv_iload_n hx hb dX11_count_139 rfl (lv_at hl 0 rfl) ?_
    refine lv_bipush (v := 49) hx hb dX11_count_140 (by decide) ?_
    refine lv_icmp_ge (tgt := 163) hx hb dX11_count_142 (by decide) (fun h9 => absurd h9 (by decide)) (fun _ => ?_)
    refine lv_iload_n hx hb dX11_count_145 rfl (lv_at hl 1 rfl) ?_
    refine lv_aload_n hx hb dX11_count_146 rfl (lv_at hl 2 rfl) ?_
    refine va_get (D := G) (ci := 11) (v := .ref (v 20)) (C := RX11) (T := TX11) (N := 44) hx hb hts j_m_count_11 hown hE.K hP 0 rfl rfl 20 (by decide) (hts (.fieldLink RX11 39 "GossamerGateModel" "said" "[I") (List.mem_cons_of_mem _ (List.mem_append_left _ (List.mem_of_getElem? (i := 0) rfl)))) (fun _ h9 => h9) rfl dX11_count_147 ?_
    refine lv_bipush (v := 35) hx hb dX11_count_150 (by decide) ?_
    refine lv_iload_n hx hb dX11_count_152 rfl (lv_at hl 0 rfl) ?_
    refine lv_iadd hx hb dX11_count_153 ?_
    refine gz_ni (v := 58) (by decide) ?_
    refine va_iald hx hb hE.K hP 1 0 rfl rfl (gz_in (by decide)) dX11_count_154 ?_
    refine gz_ni (v := 0) rfl ?_
    refine lv_iadd hx hb dX11_count_155 ?_
    refine gz_ni (v := 0) (by decide) ?_
    refine lv_istore_n (lv' := [(2, .int 0), (3, .int 23), (0, .ref h0), (1, .int 10)]) hx hb dX11_count_156 rfl hl (by decide) rfl (fun ls hl => ?_)
    refine lv_iinc (v := 24) (lv' := [(3, .int 24), (2, .int 0), (0, .ref h0), (1, .int 10)]) hx hb dX11_count_157 hl (k := 1) rfl (by decide) (by decide) rfl (fun ls hl => ?_)
    refine lv_goto (tgt := 139) hx hb dX11_count_160 (by decide) ?_
    refine lv_iload_n hx hb dX11_count_139 rfl (lv_at hl 0 rfl) ?_
    refine lv_bipush (v := 49) hx hb dX11_count_140 (by decide) ?_
    refine lv_icmp_ge (tgt := 163) hx hb dX11_count_142 (by decide) (fun h9 => absurd h9 (by decide)) (fun _ => ?_)
    refine lv_iload_n hx hb dX11_count_145 rfl (lv_at hl 1 rfl) ?_
    refine lv_aload_n hx hb dX11_count_146 rfl (lv_at hl 2 rfl) ?_
    refine va_get (D := G) (ci := 11) (v := .ref (v 20)) (C := RX11) (T := TX11) (N := 44) hx hb hts j_m_count_11 hown hE.K hP 0 rfl rfl 20 (by decide) (hts (.fieldLink RX11 39 "GossamerGateModel" "said" "[I") (List.mem_cons_of_mem _ (List.mem_append_left _ (List.mem_of_getElem? (i := 0) rfl)))) (fun _ h9 => h9) rfl dX11_count_147 ?_
    refine lv_bipush (v := 35) hx hb dX11_count_150 (by decide) ?_
    refine lv_iload_n hx hb dX11_count_152 rfl (lv_at hl 0 rfl) ?_
    refine lv_iadd hx hb dX11_count_153 ?_
    refine gz_ni (v := 59) (by decide) ?_
    refine va_iald hx hb hE.K hP 1 0 rfl rfl (gz_in (by decide)) dX11_count_154 ?_
    refine gz_ni (v := 0) rfl ?_
    refine lv_iadd hx hb dX11_count_155 ?_
    refine gz_ni (v := 0) (by decide) ?_
    refine lv_istore_n (lv' := [(2, .int 0), (3, .int 24), (0, .ref h0), (1, .int 10)]) hx hb dX11_count_156 rfl hl (by decide) rfl (fun ls hl => ?_)
    refine lv_iinc (v := 25) (lv' := [(3, .int 25), (2, .int 0), (0, .ref h0), (1, .int 10)]) hx hb dX11_count_157 hl (k := 1) rfl (by decide) (by decide) rfl (fun ls hl => ?_)
    refine lv_goto (tgt := 139) hx hb dX11_count_160 (by decide) ?_
    refine lv_iload_n hx hb dX11_count_139 rfl (lv_at hl 0 rfl) ?_
    refine lv_bipush (v := 49) hx hb dX11_count_140 (by decide) ?_
    refine lv_icmp_ge (tgt := 163) hx hb dX11_count_142 (by decide) (fun h9 => absurd h9 (by decide)) (fun _ => ?_)
    refine lv_iload_n hx hb dX11_count_145 rfl (lv_at hl 1 rfl) ?_
    refine lv_aload_n hx hb dX11_count_146 rfl (lv_at hl 2 rfl) ?_
    refine va_get (D := G) (ci := 11) (v := .ref (v 20)) (C := RX11) (T := TX11) (N := 44) hx hb hts j_m_count_11 hown hE.K hP 0 rfl rfl 20 (by decide) (hts (.fieldLink RX11 39 "GossamerGateModel" "said" "[I") (List.mem_cons_of_mem _ (List.mem_append_left _ (List.mem_of_getElem? (i := 0) rfl)))) (fun _ h9 => h9) rfl dX11_count_147 ?_
    refine lv_bipush (v := 35) hx hb dX11_count_150 (by decide) ?_
    refine lv_iload_n hx hb dX11_count_152 rfl (lv_at hl 0 rfl) ?_
    refine lv_iadd hx hb dX11_count_153 ?_
    refine gz_ni (v := 60) (by decide) ?_
    refine va_iald hx hb hE.K hP 1 0 rfl rfl (gz_in (by decide)) dX11_count_154 ?_
    refine gz_ni (v := 0) rfl ?_
    refine lv_iadd hx hb dX11_count_155 ?_
    refine gz_ni (v := 0) (by decide) ?_
    refine lv_istore_n (lv' := [(2, .int 0), (3, .int 25), (0, .ref h0), (1, .int 10)]) hx hb dX11_count_156 rfl hl (by decide) rfl (fun ls hl => ?_)
    refine lv_iinc (v := 26) (lv' := [(3, .int 26), (2, .int 0), (0, .ref h0), (1, .int 10)]) hx hb dX11_count_157 hl (k := 1) rfl (by decide) (by decide) rfl (fun ls hl => ?_)
    refine lv_goto (tgt := 139) hx hb dX11_count_160 (by decide) ?_
    refine lv_iload_n hx hb dX11_count_139 rfl (lv_at hl 0 rfl) ?_
    refine lv_bipush (v := 49) hx hb dX11_count_140 (by decide) ?_
    refine lv_icmp_ge (tgt := 163) hx hb dX11_count_142 (by decide) (fun h9 => absurd h9 (by decide)) (fun _ => ?_)
    refine lv_iload_n hx hb dX11_count_145 rfl (lv_at hl 1 rfl) ?_
    refine lv_aload_n hx hb dX11_count_146 rfl (lv_at hl 2 rfl) ?_
    refine va_get (D := G) (ci := 11) (v := .ref (v 20)) (C := RX11) (T := TX11) (N := 44) hx hb hts j_m_count_11 hown hE.K hP 0 rfl rfl 20 (by decide) (hts (.fieldLink RX11 39 "GossamerGateModel" "said" "[I") (List.mem_cons_of_mem _ (List.mem_append_left _ (List.mem_of_getElem? (i := 0) rfl)))) (fun _ h9 => h9) rfl dX11_count_147 ?_
    refine lv_bipush (v := 35) hx hb dX11_count_150 (by decide) ?_
    refine lv_iload_n hx hb dX11_count_152 rfl (lv_at hl 0 rfl) ?_
    refine lv_iadd hx hb dX11_count_153 ?_
    refine gz_ni (v := 61) (by decide) ?_
    refine va_iald hx hb hE.K hP 1 0 rfl rfl (gz_in (by decide)) dX11_count_154 ?_
    refine gz_ni (v := 0) rfl ?_
    refine lv_iadd hx hb dX11_count_155 ?_
    refine gz_ni (v := 0) (by decide) ?_
    refine lv_istore_n (lv' := [(2, .int 0), (3, .int 26), (0, .ref h0), (1, .int 10)]) hx hb dX11_count_156 rfl hl (by decide) rfl (fun ls hl => ?_)
    refine lv_iinc (v := 27) (lv' := [(3, .int 27), (2, .int 0), (0, .ref h0), (1, .int 10)]) hx hb dX11_count_157 hl (k := 1) rfl (by decide) (by decide) rfl (fun ls hl => ?_)
    refine lv_goto (tgt := 139) hx hb dX11_count_160 (by decide) ?_
    refine lv_iload_n hx hb dX11_count_139 rfl (lv_at hl 0 rfl) ?_
    refine lv_bipush (v := 49) hx hb dX11_count_140 (by decide) ?_
    refine lv_icmp_ge (tgt := 163) hx hb dX11_count_142 (by decide) (fun h9 => absurd h9 (by decide)) (fun _ => ?_)
    refine lv_iload_n hx hb dX11_count_145 rfl (lv_at hl 1 rfl) ?_
    refine lv_aload_n hx hb dX11_count_146 rfl (lv_at hl 2 rfl) ?_
    refine va_get (D := G) (ci := 11) (v := .ref (v 20)) (C := RX11) (T := TX11) (N := 44) hx hb hts j_m_count_11 hown hE.K hP 0 rfl rfl 20 (by decide) (hts (.fieldLink RX11 39 "GossamerGateModel" "said" "[I") (List.mem_cons_of_mem _ (List.mem_append_left _ (List.mem_of_getElem? (i := 0) rfl)))) (fun _ h9 => h9) rfl dX11_count_147 ?_
    refine lv_bipush (v := 35) hx hb dX11_count_150 (by decide) ?_
    refine lv_iload_n hx hb dX11_count_152 rfl (lv_at hl 0 rfl) ?_
    refine lv_iadd hx hb dX11_count_153 ?_
    refine gz_ni (v := 62) (by decide) ?_
    refine va_iald hx hb hE.K hP 1 0 rfl rfl (gz_in (by decide)) dX11_count_154 ?_
    refine gz_ni (v := 0) rfl ?_
    refine lv_iadd hx hb dX11_count_155 ?_
    refine gz_ni (v := 0) (by decide) ?_
    refine lv_istore_n (lv' := [(2, .int 0), (3, .int 27), (0, .ref h0), (1, .int 10)]) hx hb dX11_count_156 rfl hl (by decide) rfl (fun ls hl => ?_)
    refine lv_iinc (v := 28) (lv' := [(3, .int 28), (2, .int 0), (0, .ref h0), (1, .int 10)]) hx hb dX11_count_157 hl (k := 1) rfl (by decide) (by decide) rfl (fun ls hl => ?_)
    refine lv_goto (tgt := 139) hx hb dX11_count_160 (by decide) ?_
    refine lv_iload_n hx hb dX11_count_139 rfl (lv_at hl 0 rfl) ?_
    refine lv_bipush (v := 49) hx hb dX11_count_140 (by decide) ?_
    refine lv_icmp_ge (tgt := 163) hx hb dX11_count_142 (by decide) (fun h9 => absurd h9 (by decide)) (fun _ => ?_)
    refine lv_iload_n hx hb dX11_count_145 rfl (lv_at hl 1 rfl) ?_
    refine lv_aload_n hx hb dX11_count_146 rfl (lv_at hl 2 rfl) ?_
    refine va_get (D := G) (ci := 11) (v := .ref (v 20)) (C := RX11) (T := TX11) (N := 44) hx hb hts j_m_count_11 hown hE.K hP 0 rfl rfl 20 (by decide) (hts (.fieldLink RX11 39 "GossamerGateModel" "said" "[I") (List.mem_cons_of_mem _ (List.mem_append_left _ (List.mem_of_getElem? (i := 0) rfl)))) (fun _ h9 => h9) rfl dX11_count_147 ?_
    refine lv_bipush (v := 35) hx hb dX11_count_150 (by decide) ?_
    refine lv_iload_n hx hb dX11_count_152 rfl (lv_at hl 0 rfl) ?_
    refine lv_iadd hx hb dX11_count_153 ?_
    refine gz_ni (v := 63) (by decide) ?_
    refine va_iald hx hb hE.K hP 1 0 rfl rfl (gz_in (by decide)) dX11_count_154 ?_
    refine gz_ni (v := 0) rfl ?_
    refine lv_iadd hx hb dX11_count_155 ?_
    refine gz_ni (v := 0) (by decide) ?_
    refine lv_istore_n (lv' := [(2, .int 0), (3, .int 28), (0, .ref h0), (1, .int 10)]) hx hb dX11_count_156 rfl hl (by decide) rfl (fun ls hl => ?_)
    refine lv_iinc (v := 29) (lv' := [(3, .int 29), (2, .int 0), (0, .ref h0), (1, .int 10)]) hx hb dX11_count_157 hl (k := 1) rfl (by decide) (by decide) rfl (fun ls hl => ?_)
    refine lv_goto (tgt := 139) hx hb dX11_count_160 (by decide) ?_
    refine lv_iload_n hx hb dX11_count_139 rfl (lv_at hl 0 rfl) ?_
    refine lv_bipush (v := 49) hx hb dX11_count_140 (by decide) ?_
    refine lv_icmp_ge (tgt := 163) hx hb dX11_count_142 (by decide) (fun h9 => absurd h9 (by decide)) (fun _ => ?_)
    refine lv_iload_n hx hb dX11_count_145 rfl (lv_at hl 1 rfl) ?_
    refine lv_aload_n hx hb dX11_count_146 rfl (lv_at hl 2 rfl) ?_
    refine va_get (D := G) (ci := 11) (v := .ref (v 20)) (C := RX11) (T := TX11) (N := 44) hx hb hts j_m_count_11 hown hE.K hP 0 rfl rfl 20 (by decide) (hts (.fieldLink RX11 39 "GossamerGateModel" "said" "[I") (List.mem_cons_of_mem _ (List.mem_append_left _ (List.mem_of_getElem? (i := 0) rfl)))) (fun _ h9 => h9) rfl dX11_count_147 ?_
    refine lv_bipush (v := 35) hx hb dX11_count_150 (by decide) ?_
    refine lv_iload_n hx hb dX11_count_152 rfl (lv_at hl 0 rfl) ?_
    refine lv_iadd hx hb dX11_count_153 ?_
    refine gz_ni (v := 64) (by decide) ?_
    refine va_iald hx hb hE.K hP 1 0 rfl rfl (gz_in (by decide)) dX11_count_154 ?_
    refine gz_ni (v := 0) rfl ?_
    refine lv_iadd hx hb dX11_count_155 ?_
    refine gz_ni (v := 0) (by decide) ?_
    refine lv_istore_n (lv' := [(2, .int 0), (3, .int 29), (0, .ref h0), (1, .int 10)]) hx hb dX11_count_156 rfl hl (by decide) rfl (fun ls hl => ?_)
    refine lv_iinc (v := 30) (lv' := [(3, .int 30), (2, .int 0), (0, .ref h0), (1, .int 10)]) hx hb dX11_count_157 hl (k := 1) rfl (by decide) (by decide) rfl (fun ls hl => ?_)
    refine lv_goto (tgt := 139) hx hb dX11_count_160 (by decide) ?_
    refine lv_iload_n hx hb dX11_count_139 rfl (lv_at hl 0 rfl) ?_
    refine lv_bipush (v := 49) hx hb dX11_count_140 (by decide) ?_
    refine lv_icmp_ge (tgt := 163) hx hb dX11_count_142 (by decide) (fun h9 => absurd h9 (by decide)) (fun _ => ?_)
    refine lv_iload_n hx hb dX11_count_145 rfl (lv_at hl 1 rfl) ?_
    refine lv_aload_n hx hb dX11_count_146 rfl (lv_at hl 2 rfl) ?_
    refine va_get (D := G) (ci := 11) (v := .ref (v 20)) (C := RX11) (T := TX11) (N := 44) hx hb hts j_m_count_11 hown hE.K hP 0 rfl rfl 20 (by decide) (hts (.fieldLink RX11 39 "GossamerGateModel" "said" "[I") (List.mem_cons_of_mem _ (List.mem_append_left _ (List.mem_of_getElem? (i := 0) rfl)))) (fun _ h9 => h9) rfl dX11_count_147 ?_
    refine lv_bipush (v := 35) hx hb dX11_count_150 (by decide) ?_
    refine lv_iload_n hx hb dX11_count_152 rfl (lv_at hl 0 rfl) ?_
    refine lv_iadd hx hb dX11_count_153 ?_
    refine gz_ni (v := 65) (by decide) ?_
    refine va_iald hx hb hE.K hP 1 0 rfl rfl (gz_in (by decide)) dX11_count_154 ?_
    refine gz_ni (v := 0) rfl ?_
    refine lv_iadd hx hb dX11_count_155 ?_
    refine gz_ni (v := 0) (by decide) ?_
    refine lv_istore_n (lv' := [(2, .int 0), (3, .int 30), (0, .ref h0), (1, .int 10)]) hx hb dX11_count_156 rfl hl (by decide) rfl (fun ls hl => ?_)
    refine lv_iinc (v := 31) (lv' := [(3, .int 31), (2, .int 0), (0, .ref h0), (1, .int 10)]) hx hb dX11_count_157 hl (k := 1) rfl (by decide) (by decide) rfl (fun ls hl => ?_)
    refine lv_goto (tgt := 139) hx hb dX11_count_160 (by decide) ?_
    refine lv_iload_n hx hb dX11_count_139 rfl (lv_at hl 0 rfl) ?_
    refine lv_bipush (v := 49) hx hb dX11_count_140 (by decide) ?_
    refine lv_icmp_ge (tgt := 163) hx hb dX11_count_142 (by decide) (fun h9 => absurd h9 (by decide)) (fun _ => ?_)
    refine lv_iload_n hx hb dX11_count_145 rfl (lv_at hl 1 rfl) ?_
    refine lv_aload_n hx hb dX11_count_146 rfl (lv_at hl 2 rfl) ?_
    refine va_get (D := G) (ci := 11) (v := .ref (v 20)) (C := RX11) (T := TX11) (N := 44) hx hb hts j_m_count_11 hown hE.K hP 0 rfl rfl 20 (by decide) (hts (.fieldLink RX11 39 "GossamerGateModel" "said" "[I") (List.mem_cons_of_mem _ (List.mem_append_left _ (List.mem_of_getElem? (i := 0) rfl)))) (fun _ h9 => h9) rfl dX11_count_147 ?_
    refine lv_bipush (v := 35) hx hb dX11_count_150 (by decide) ?_
    refine lv_iload_n hx hb dX11_count_152 rfl (lv_at hl 0 rfl) ?_
    refine lv_iadd hx hb dX11_count_153 ?_
    refine gz_ni (v := 66) (by decide) ?_
    refine va_iald hx hb hE.K hP 1 0 rfl rfl (gz_in (by decide)) dX11_count_154 ?_
    refine gz_ni (v := 0) rfl ?_
    refine lv_iadd hx hb dX11_count_155 ?_
    refine gz_ni (v := 0) (by decide) ?_
    refine lv_istore_n (lv' := [(2, .int 0), (3, .int 31), (0, .ref h0), (1, .int 10)]) hx hb dX11_count_156 rfl hl (by decide) rfl (fun ls hl => ?_)
    refine lv_iinc (v := 32) (lv' := [(3, .int 32), (2, .int 0), (0, .ref h0), (1, .int 10)]) hx hb dX11_count_157 hl (k := 1) rfl (by decide) (by decide) rfl (fun ls hl => ?_)
    refine lv_goto (tgt := 139) hx hb dX11_count_160 (by decide) ?_
    refine lv_iload_n hx hb dX11_count_139 rfl (lv_at hl 0 rfl) ?_
    refine lv_bipush (v := 49) hx hb dX11_count_140 (by decide) ?_
    refine lv_icmp_ge (tgt := 163) hx hb dX11_count_142 (by decide) (fun h9 => absurd h9 (by decide)) (fun _ => ?_)
    refine lv_iload_n hx hb dX11_count_145 rfl (lv_at hl 1 rfl) ?_
    refine lv_aload_n hx hb dX11_count_146 rfl (lv_at hl 2 rfl) ?_
    refine va_get (D := G) (ci := 11) (v := .ref (v 20)) (C := RX11) (T := TX11) (N := 44) hx hb hts j_m_count_11 hown hE.K hP 0 rfl rfl 20 (by decide) (hts (.fieldLink RX11 39 "GossamerGateModel" "said" "[I") (List.mem_cons_of_mem _ (List.mem_append_left _ (List.mem_of_getElem? (i := 0) rfl)))) (fun _ h9 => h9) rfl dX11_count_147 ?_
    refine lv_bipush (v := 35) hx hb dX11_count_150 (by decide) ?_
    refine lv_iload_n hx hb dX11_count_152 rfl (lv_at hl 0 rfl) ?_
    refine lv_iadd hx hb dX11_count_153 ?_
    refine gz_ni (v := 67) (by decide) ?_
    refine va_iald hx hb hE.K hP 1 0 rfl rfl (gz_in (by decide)) dX11_count_154 ?_
    refine gz_ni (v := 0) rfl ?_
    refine lv_iadd hx hb dX11_count_155 ?_
    refine gz_ni (v := 0) (by decide) ?_
    refine lv_istore_n (lv' := [(2, .int 0), (3, .int 32), (0, .ref h0), (1, .int 10)]) hx hb dX11_count_156 rfl hl (by decide) rfl (fun ls hl => ?_)
    refine lv_iinc (v := 33) (lv' := [(3, .int 33), (2, .int 0), (0, .ref h0), (1, .int 10)]) hx hb dX11_count_157 hl (k := 1) rfl (by decide) (by decide) rfl (fun ls hl => ?_)
    refine lv_goto (tgt := 139) hx hb dX11_count_160 (by decide) ?_
    refine lv_iload_n hx hb dX11_count_139 rfl (lv_at hl 0 rfl) ?_
    refine lv_bipush (v := 49) hx hb dX11_count_140 (by decide) ?_
    refine lv_icmp_ge (tgt := 163) hx hb dX11_count_142 (by decide) (fun h9 => absurd h9 (by decide)) (fun _ => ?_)
    refine lv_iload_n hx hb dX11_count_145 rfl (lv_at hl 1 rfl) ?_
    refine lv_aload_n hx hb dX11_count_146 rfl (lv_at hl 2 rfl) ?_
    refine va_get (D := G) (ci := 11) (v := .ref (v 20)) (C := RX11) (T := TX11) (N := 44) hx hb hts j_m_count_11 hown hE.K hP 0 rfl rfl 20 (by decide) (hts (.fieldLink RX11 39 "GossamerGateModel" "said" "[I") (List.mem_cons_of_mem _ (List.mem_append_left _ (List.mem_of_getElem? (i := 0) rfl)))) (fun _ h9 => h9) rfl dX11_count_147 ?_
    refine lv_bipush (v := 35) hx hb dX11_count_150 (by decide) ?_
    refine lv_iload_n hx hb dX11_count_152 rfl (lv_at hl 0 rfl) ?_
    refine lv_iadd hx hb dX11_count_153 ?_
    refine gz_ni (v := 68) (by decide) ?_
    refine va_iald hx hb hE.K hP 1 0 rfl rfl (gz_in (by decide)) dX11_count_154 ?_
    refine gz_ni (v := 0) rfl ?_
    refine lv_iadd hx hb dX11_count_155 ?_
    refine gz_ni (v := 0) (by decide) ?_
    refine lv_istore_n (lv' := [(2, .int 0), (3, .int 33), (0, .ref h0), (1, .int 10)]) hx hb dX11_count_156 rfl hl (by decide) rfl (fun ls hl => ?_)
    refine lv_iinc (v := 34) (lv' := [(3, .int 34), (2, .int 0), (0, .ref h0), (1, .int 10)]) hx hb dX11_count_157 hl (k := 1) rfl (by decide) (by decide) rfl (fun ls hl => ?_)
    refine lv_goto (tgt := 139) hx hb dX11_count_160 (by decide) ?_
    refine lv_iload_n hx hb dX11_count_139 rfl (lv_at hl 0 rfl) ?_
    refine lv_bipush (v := 49) hx hb dX11_count_140 (by decide) ?_
    refine lv_icmp_ge (tgt := 163) hx hb dX11_count_142 (by decide) (fun h9 => absurd h9 (by decide)) (fun _ => ?_)
    refine lv_iload_n hx hb dX11_count_145 rfl (lv_at hl 1 rfl) ?_
    refine lv_aload_n hx hb dX11_count_146 rfl (lv_at hl 2 rfl) ?_
    refine va_get (D := G) (ci := 11) (v := .ref (v 20)) (C := RX11) (T := TX11) (N := 44) hx hb hts j_m_count_11 hown hE.K hP 0 rfl rfl 20 (by decide) (hts (.fieldLink RX11 39 "GossamerGateModel" "said" "[I") (List.mem_cons_of_mem _ (List.mem_append_left _ (List.mem_of_getElem? (i := 0) rfl)))) (fun _ h9 => h9) rfl dX11_count_147 ?_
    refine lv_bipush (v := 35) hx hb dX11_count_150 (by decide) ?_
    refine lv_iload_n hx hb dX11_count_152 rfl (lv_at hl 0 rfl) ?_
    refine lv_iadd hx hb dX11_count_153 ?_
    refine gz_ni (v := 69) (by decide) ?_
    refine va_iald hx hb hE.K hP 1 0 rfl rfl (gz_in (by decide)) dX11_count_154 ?_
    refine gz_ni (v := 0) rfl ?_
    refine lv_iadd hx hb dX11_count_155 ?_
    refine gz_ni (v := 0) (by decide) ?_
    refine lv_istore_n (lv' := [(2, .int 0), (3, .int 34), (0, .ref h0), (1, .int 10)]) hx hb dX11_count_156 rfl hl (by decide) rfl (fun ls hl => ?_)
    refine lv_iinc (v := 35) (lv' := [(3, .int 35), (2, .int 0), (0, .ref h0), (1, .int 10)]) hx hb dX11_count_157 hl (k := 1) rfl (by decide) (by decide) rfl (fun ls hl => ?_)
    refine lv_goto (tgt := 139) hx hb dX11_count_160 (by decide) ?_
    refine lv_iload_n hx hb dX11_count_139 rfl (lv_at hl 0 rfl) ?_
    refine lv_bipush (v := 49) hx hb dX11_count_140 (by decide) ?_
    refine lv_icmp_ge (tgt := 163) hx hb dX11_count_142 (by decide) (fun h9 => absurd h9 (by decide)) (fun _ => ?_)
    refine lv_iload_n hx hb dX11_count_145 rfl (lv_at hl 1 rfl) ?_
    refine lv_aload_n hx hb dX11_count_146 rfl (lv_at hl 2 rfl) ?_
    refine va_get (D := G) (ci := 11) (v := .ref (v 20)) (C := RX11) (T := TX11) (N := 44) hx hb hts j_m_count_11 hown hE.K hP 0 rfl rfl 20 (by decide) (hts (.fieldLink RX11 39 "GossamerGateModel" "said" "[I") (List.mem_cons_of_mem _ (List.mem_append_left _ (List.mem_of_getElem? (i := 0) rfl)))) (fun _ h9 => h9) rfl dX11_count_147 ?_
    refine lv_bipush (v := 35) hx hb dX11_count_150 (by decide) ?_
    refine lv_iload_n hx hb dX11_count_152 rfl (lv_at hl 0 rfl) ?_
    refine lv_iadd hx hb dX11_count_153 ?_
    refine gz_ni (v := 70) (by decide) ?_
    refine va_iald hx hb hE.K hP 1 0 rfl rfl (gz_in (by decide)) dX11_count_154 ?_
    refine gz_ni (v := 0) rfl ?_
    refine lv_iadd hx hb dX11_count_155 ?_
    refine gz_ni (v := 0) (by decide) ?_
    refine lv_istore_n (lv' := [(2, .int 0), (3, .int 35), (0, .ref h0), (1, .int 10)]) hx hb dX11_count_156 rfl hl (by decide) rfl (fun ls hl => ?_)
    refine lv_iinc (v := 36) (lv' := [(3, .int 36), (2, .int 0), (0, .ref h0), (1, .int 10)]) hx hb dX11_count_157 hl (k := 1) rfl (by decide) (by decide) rfl (fun ls hl => ?_)
    refine lv_goto (tgt := 139) hx hb dX11_count_160 (by decide) ?_
    refine lv_iload_n hx hb dX11_count_139 rfl (lv_at hl 0 rfl) ?_
    refine lv_bipush (v := 49) hx hb dX11_count_140 (by decide) ?_
    refine lv_icmp_ge (tgt := 163) hx hb dX11_count_142 (by decide) (fun h9 => absurd h9 (by decide)) (fun _ => ?_)
    refine lv_iload_n hx hb dX11_count_145 rfl (lv_at hl 1 rfl) ?_
    refine lv_aload_n hx hb dX11_count_146 rfl (lv_at hl 2 rfl) ?_
    refine va_get (D := G) (ci := 11) (v := .ref (v 20)) (C := RX11) (T := TX11) (N := 44) hx hb hts j_m_count_11 hown hE.K hP 0 rfl rfl 20 (by decide) (hts (.fieldLink RX11 39 "GossamerGateModel" "said" "[I") (List.mem_cons_of_mem _ (List.mem_append_left _ (List.mem_of_getElem? (i := 0) rfl)))) (fun _ h9 => h9) rfl dX11_count_147 ?_
    refine lv_bipush (v := 35) hx hb dX11_count_150 (by decide) ?_
    refine lv_iload_n hx hb dX11_count_152 rfl (lv_at hl 0 rfl) ?_
    refine lv_iadd hx hb dX11_count_153 ?_
    refine gz_ni (v := 71) (by decide) ?_
    refine va_iald hx hb hE.K hP 1 0 rfl rfl (gz_in (by decide)) dX11_count_154 ?_
    refine gz_ni (v := 0) rfl ?_
    refine lv_iadd hx hb dX11_count_155 ?_
    refine gz_ni (v := 0) (by decide) ?_
    refine lv_istore_n (lv' := [(2, .int 0), (3, .int 36), (0, .ref h0), (1, .int 10)]) hx hb dX11_count_156 rfl hl (by decide) rfl (fun ls hl => ?_)
    refine lv_iinc (v := 37) (lv' := [(3, .int 37), (2, .int 0), (0, .ref h0), (1, .int 10)]) hx hb dX11_count_157 hl (k := 1) rfl (by decide) (by decide) rfl (fun ls hl => ?_)
    refine lv_goto (tgt := 139) hx hb dX11_count_160 (by decide) ?_
    refine lv_iload_n hx hb dX11_count_139 rfl (lv_at hl 0 rfl) ?_
    refine lv_bipush (v := 49) hx hb dX11_count_140 (by decide) ?_
    refine lv_icmp_ge (tgt := 163) hx hb dX11_count_142 (by decide) (fun h9 => absurd h9 (by decide)) (fun _ => ?_)
    refine lv_iload_n hx hb dX11_count_145 rfl (lv_at hl 1 rfl) ?_
    refine lv_aload_n hx hb dX11_count_146 rfl (lv_at hl 2 rfl) ?_
    refine va_get (D := G) (ci := 11) (v := .ref (v 20)) (C := RX11) (T := TX11) (N := 44) hx hb hts j_m_count_11 hown hE.K hP 0 rfl rfl 20 (by decide) (hts (.fieldLink RX11 39 "GossamerGateModel" "said" "[I") (List.mem_cons_of_mem _ (List.mem_append_left _ (List.mem_of_getElem? (i := 0) rfl)))) (fun _ h9 => h9) rfl dX11_count_147 ?_
    refine lv_bipush (v := 35) hx hb dX11_count_150 (by decide) ?_
    refine lv_iload_n hx hb dX11_count_152 rfl (lv_at hl 0 rfl) ?_
    refine lv_iadd hx hb dX11_count_153 ?_
    refine gz_ni (v := 72) (by decide) ?_
    refine va_iald hx hb hE.K hP 1 0 rfl rfl (gz_in (by decide)) dX11_count_154 ?_
    refine gz_ni (v := 0) rfl ?_
    refine lv_iadd hx hb dX11_count_155 ?_
    refine gz_ni (v := 0) (by decide) ?_
    refine lv_istore_n (lv' := [(2, .int 0), (3, .int 37), (0, .ref h0), (1, .int 10)]) hx hb dX11_count_156 rfl hl (by decide) rfl (fun ls hl => ?_)
    refine lv_iinc (v := 38) (lv' := [(3, .int 38), (2, .int 0), (0, .ref h0), (1, .int 10)]) hx hb dX11_count_157 hl (k := 1) rfl (by decide) (by decide) rfl (fun ls hl => ?_)
    refine lv_goto (tgt := 139) hx hb dX11_count_160 (by decide) ?_
    refine lv_iload_n hx hb dX11_count_139 rfl (lv_at hl 0 rfl) ?_
    refine lv_bipush (v := 49) hx hb dX11_count_140 (by decide) ?_
    refine lv_icmp_ge (tgt := 163) hx hb dX11_count_142 (by decide) (fun h9 => absurd h9 (by decide)) (fun _ => ?_)
    refine lv_iload_n hx hb dX11_count_145 rfl (lv_at hl 1 rfl) ?_
    refine lv_aload_n hx hb dX11_count_146 rfl (lv_at hl 2 rfl) ?_
    refine va_get (D := G) (ci := 11) (v := .ref (v 20)) (C := RX11) (T := TX11) (N := 44) hx hb hts j_m_count_11 hown hE.K hP 0 rfl rfl 20 (by decide) (hts (.fieldLink RX11 39 "GossamerGateModel" "said" "[I") (List.mem_cons_of_mem _ (List.mem_append_left _ (List.mem_of_getElem? (i := 0) rfl)))) (fun _ h9 => h9) rfl dX11_count_147 ?_
    refine lv_bipush (v := 35) hx hb dX11_count_150 (by decide) ?_
    refine lv_iload_n hx hb dX11_count_152 rfl (lv_at hl 0 rfl) ?_
    refine lv_iadd hx hb dX11_count_153 ?_
    refine gz_ni (v := 73) (by decide) ?_
    refine va_iald hx hb hE.K hP 1 0 rfl rfl (gz_in (by decide)) dX11_count_154 ?_
    refine gz_ni (v := 0) rfl ?_
    refine lv_iadd hx hb dX11_count_155 ?_
    refine gz_ni (v := 0) (by decide) ?_
    refine lv_istore_n (lv' := [(2, .int 0), (3, .int 38), (0, .ref h0), (1, .int 10)]) hx hb dX11_count_156 rfl hl (by decide) rfl (fun ls hl => ?_)
    refine lv_iinc (v := 39) (lv' := [(3, .int 39), (2, .int 0), (0, .ref h0), (1, .int 10)]) hx hb dX11_count_157 hl (k := 1) rfl (by decide) (by decide) rfl (fun ls hl => ?_)
    refine lv_goto (tgt := 139) hx hb dX11_count_160 (by decide) ?_
    refine lv_iload_n hx hb dX11_count_139 rfl (lv_at hl 0 rfl) ?_
    refine lv_bipush (v := 49) hx hb dX11_count_140 (by decide) ?_
    refine lv_icmp_ge (tgt := 163) hx hb dX11_count_142 (by decide) (fun h9 => absurd h9 (by decide)) (fun _ => ?_)
    refine lv_iload_n hx hb dX11_count_145 rfl (lv_at hl 1 rfl) ?_
    refine lv_aload_n hx hb dX11_count_146 rfl (lv_at hl 2 rfl) ?_
    refine va_get (D := G) (ci := 11) (v := .ref (v 20)) (C := RX11) (T := TX11) (N := 44) hx hb hts j_m_count_11 hown hE.K hP 0 rfl rfl 20 (by decide) (hts (.fieldLink RX11 39 "GossamerGateModel" "said" "[I") (List.mem_cons_of_mem _ (List.mem_append_left _ (List.mem_of_getElem? (i := 0) rfl)))) (fun _ h9 => h9) rfl dX11_count_147 ?_
    refine lv_bipush (v := 35) hx hb dX11_count_150 (by decide) ?_
    refine lv_iload_n hx hb dX11_count_152 rfl (lv_at hl 0 rfl) ?_
    refine lv_iadd hx hb dX11_count_153 ?_
    refine gz_ni (v := 74) (by decide) ?_
    refine va_iald hx hb hE.K hP 1 0 rfl rfl (gz_in (by decide)) dX11_count_154 ?_
    refine gz_ni (v := 0) rfl ?_
    refine lv_iadd hx hb dX11_count_155 ?_
    refine gz_ni (v := 0) (by decide) ?_
    refine lv_istore_n (lv' := [(2, .int 0), (3, .int 39), (0, .ref h0), (1, .int 10)]) hx hb dX11_count_156 rfl hl (by decide) rfl (fun ls hl => ?_)
    refine lv_iinc (v := 40) (lv' := [(3, .int 40), (2, .int 0), (0, .ref h0), (1, .int 10)]) hx hb dX11_count_157 hl (k := 1) rfl (by decide) (by decide) rfl (fun ls hl => ?_)
    refine lv_goto (tgt := 139) hx hb dX11_count_160 (by decide) ?_
    refine lv_iload_n hx hb dX11_count_139 rfl (lv_at hl 0 rfl) ?_
    refine lv_bipush (v := 49) hx hb dX11_count_140 (by decide) ?_
    refine lv_icmp_ge (tgt := 163) hx hb dX11_count_142 (by decide) (fun h9 => absurd h9 (by decide)) (fun _ => ?_)
    refine lv_iload_n hx hb dX11_count_145 rfl (lv_at hl 1 rfl) ?_
    refine lv_aload_n hx hb dX11_count_146 rfl (lv_at hl 2 rfl) ?_
    refine va_get (D := G) (ci := 11) (v := .ref (v 20)) (C := RX11) (T := TX11) (N := 44) hx hb hts j_m_count_11 hown hE.K hP 0 rfl rfl 20 (by decide) (hts (.fieldLink RX11 39 "GossamerGateModel" "said" "[I") (List.mem_cons_of_mem _ (List.mem_append_left _ (List.mem_of_getElem? (i := 0) rfl)))) (fun _ h9 => h9) rfl dX11_count_147 ?_
    refine lv_bipush (v := 35) hx hb dX11_count_150 (by decide) ?_
    refine lv_iload_n hx hb dX11_count_152 rfl (lv_at hl 0 rfl) ?_
    refine lv_iadd hx hb dX11_count_153 ?_
    refine gz_ni (v := 75) (by decide) ?_
    refine va_iald hx hb hE.K hP 1 0 rfl rfl (gz_in (by decide)) dX11_count_154 ?_
    refine gz_ni (v := 0) rfl ?_
    refine lv_iadd hx hb dX11_count_155 ?_
    refine gz_ni (v := 0) (by decide) ?_
    refine lv_istore_n (lv' := [(2, .int 0), (3, .int 40), (0, .ref h0), (1, .int 10)]) hx hb dX11_count_156 rfl hl (by decide) rfl (fun ls hl => ?_)
    refine lv_iinc (v := 41) (lv' := [(3, .int 41), (2, .int 0), (0, .ref h0), (1, .int 10)]) hx hb dX11_count_157 hl (k := 1) rfl (by decide) (by decide) rfl (fun ls hl => ?_)
    refine lv_goto (tgt := 139) hx hb dX11_count_160 (by decide) ?_
    refine lv_iload_n hx hb dX11_count_139 rfl (lv_at hl 0 rfl) ?_
    refine lv_bipush (v := 49) hx hb dX11_count_140 (by decide) ?_
    refine lv_icmp_ge (tgt := 163) hx hb dX11_count_142 (by decide) (fun h9 => absurd h9 (by decide)) (fun _ => ?_)
    refine lv_iload_n hx hb dX11_count_145 rfl (lv_at hl 1 rfl) ?_
    refine lv_aload_n hx hb dX11_count_146 rfl (lv_at hl 2 rfl) ?_
    refine va_get (D := G) (ci := 11) (v := .ref (v 20)) (C := RX11) (T := TX11) (N := 44) hx hb hts j_m_count_11 hown hE.K hP 0 rfl rfl 20 (by decide) (hts (.fieldLink RX11 39 "GossamerGateModel" "said" "[I") (List.mem_cons_of_mem _ (List.mem_append_left _ (List.mem_of_getElem? (i := 0) rfl)))) (fun _ h9 => h9) rfl dX11_count_147 ?_
    refine lv_bipush (v := 35) hx hb dX11_count_150 (by decide) ?_
    refine lv_iload_n hx hb dX11_count_152 rfl (lv_at hl 0 rfl) ?_
    refine lv_iadd hx hb dX11_count_153 ?_
    refine gz_ni (v := 76) (by decide) ?_
    refine va_iald hx hb hE.K hP 1 0 rfl rfl (gz_in (by decide)) dX11_count_154 ?_
    refine gz_ni (v := 0) rfl ?_
    refine lv_iadd hx hb dX11_count_155 ?_
    refine gz_ni (v := 0) (by decide) ?_
    refine lv_istore_n (lv' := [(2, .int 0), (3, .int 41), (0, .ref h0), (1, .int 10)]) hx hb dX11_count_156 rfl hl (by decide) rfl (fun ls hl => ?_)
    refine lv_iinc (v := 42) (lv' := [(3, .int 42), (2, .int 0), (0, .ref h0), (1, .int 10)]) hx hb dX11_count_157 hl (k := 1) rfl (by decide) (by decide) rfl (fun ls hl => ?_)
    refine lv_goto (tgt := 139) hx hb dX11_count_160 (by decide) ?_
    refine lv_iload_n hx hb dX11_count_139 rfl (lv_at hl 0 rfl) ?_
    refine lv_bipush (v := 49) hx hb dX11_count_140 (by decide) ?_
    refine lv_icmp_ge (tgt := 163) hx hb dX11_count_142 (by decide) (fun h9 => absurd h9 (by decide)) (fun _ => ?_)
    refine lv_iload_n hx hb dX11_count_145 rfl (lv_at hl 1 rfl) ?_
    refine lv_aload_n hx hb dX11_count_146 rfl (lv_at hl 2 rfl) ?_
    refine va_get (D := G) (ci := 11) (v := .ref (v 20)) (C := RX11) (T := TX11) (N := 44) hx hb hts j_m_count_11 hown hE.K hP 0 rfl rfl 20 (by decide) (hts (.fieldLink RX11 39 "GossamerGateModel" "said" "[I") (List.mem_cons_of_mem _ (List.mem_append_left _ (List.mem_of_getElem? (i := 0) rfl)))) (fun _ h9 => h9) rfl dX11_count_147 ?_
    refine lv_bipush (v := 35) hx hb dX11_count_150 (by decide) ?_
    refine lv_iload_n hx hb dX11_count_152 rfl (lv_at hl 0 rfl) ?_
    refine lv_iadd hx hb dX11_count_153 ?_
    refine gz_ni (v := 77) (by decide) ?_
    refine va_iald hx hb hE.K hP 1 0 rfl rfl (gz_in (by decide)) dX11_count_154 ?_
    refine gz_ni (v := 0) rfl ?_
    refine lv_iadd hx hb dX11_count_155 ?_
    refine gz_ni (v := 0) (by decide) ?_
    refine lv_istore_n (lv' := [(2, .int 0), (3, .int 42), (0, .ref h0), (1, .int 10)]) hx hb dX11_count_156 rfl hl (by decide) rfl (fun ls hl => ?_)
    refine lv_iinc (v := 43) (lv' := [(3, .int 43), (2, .int 0), (0, .ref h0), (1, .int 10)]) hx hb dX11_count_157 hl (k := 1) rfl (by decide) (by decide) rfl (fun ls hl => ?_)
    refine lv_goto (tgt := 139) hx hb dX11_count_160 (by decide) ?_
    refine lv_iload_n hx hb dX11_count_139 rfl (lv_at hl 0 rfl) ?_
    refine lv_bipush (v := 49) hx hb dX11_count_140 (by decide) ?_
    refine lv_icmp_ge (tgt := 163) hx hb dX11_count_142 (by decide) (fun h9 => absurd h9 (by decide)) (fun _ => ?_)
    refine lv_iload_n hx hb dX11_count_145 rfl (lv_at hl 1 rfl) ?_
    refine lv_aload_n hx hb dX11_count_146 rfl (lv_at hl 2 rfl) ?_
    refine va_get (D := G) (ci := 11) (v := .ref (v 20)) (C := RX11) (T := TX11) (N := 44) hx hb hts j_m_count_11 hown hE.K hP 0 rfl rfl 20 (by decide) (hts (.fieldLink RX11 39 "GossamerGateModel" "said" "[I") (List.mem_cons_of_mem _ (List.mem_append_left _ (List.mem_of_getElem? (i := 0) rfl)))) (fun _ h9 => h9) rfl dX11_count_147 ?_
    refine lv_bipush (v := 35) hx hb dX11_count_150 (by decide) ?_
    refine lv_iload_n hx hb dX11_count_152 rfl (lv_at hl 0 rfl) ?_
    refine lv_iadd hx hb dX11_count_153 ?_
    refine gz_ni (v := 78) (by decide) ?_
    refine va_iald hx hb hE.K hP 1 0 rfl rfl (gz_in (by decide)) dX11_count_154 ?_
    refine gz_ni (v := 0) rfl ?_
    refine lv_iadd hx hb dX11_count_155 ?_
    refine gz_ni (v := 0) (by decide) ?_
    refine lv_istore_n (lv' := [(2, .int 0), (3, .int 43), (0, .ref h0), (1, .int 10)]) hx hb dX11_count_156 rfl hl (by decide) rfl (fun ls hl => ?_)
    refine lv_iinc (v := 44) (lv' := [(3, .int 44), (2, .int 0), (0, .ref h0), (1, .int 10)]) hx hb dX11_count_157 hl (k := 1) rfl (by decide) (by decide) rfl (fun ls hl => ?_)
    refine lv_goto (tgt := 139) hx hb dX11_count_160 (by decide) ?_
    refine lv_iload_n hx hb dX11_count_139 rfl (lv_at hl 0 rfl) ?_
    refine lv_bipush (v := 49) hx hb dX11_count_140 (by decide) ?_
    refine lv_icmp_ge (tgt := 163) hx hb dX11_count_142 (by decide) (fun h9 => absurd h9 (by decide)) (fun _ => ?_)
    refine lv_iload_n hx hb dX11_count_145 rfl (lv_at hl 1 rfl) ?_
    refine lv_aload_n hx hb dX11_count_146 rfl (lv_at hl 2 rfl) ?_
    refine va_get (D := G) (ci := 11) (v := .ref (v 20)) (C := RX11) (T := TX11) (N := 44) hx hb hts j_m_count_11 hown hE.K hP 0 rfl rfl 20 (by decide) (hts (.fieldLink RX11 39 "GossamerGateModel" "said" "[I") (List.mem_cons_of_mem _ (List.mem_append_left _ (List.mem_of_getElem? (i := 0) rfl)))) (fun _ h9 => h9) rfl dX11_count_147 ?_
    refine lv_bipush (v := 35) hx hb dX11_count_150 (by decide) ?_
    refine lv_iload_n hx hb dX11_count_152 rfl (lv_at hl 0 rfl) ?_
    refine lv_iadd hx hb dX11_count_153 ?_
    refine gz_ni (v := 79) (by decide) ?_
    refine va_iald hx hb hE.K hP 1 0 rfl rfl (gz_in (by decide)) dX11_count_154 ?_
    refine gz_ni (v := 0) rfl ?_
    refine lv_iadd hx hb dX11_count_155 ?_
    refine gz_ni (v := 0) (by decide) ?_
    refine lv_istore_n (lv' := [(2, .int 0), (3, .int 44), (0, .ref h0), (1, .int 10)]) hx hb dX11_count_156 rfl hl (by decide) rfl (fun ls hl => ?_)
    refine lv_iinc (v := 45) (lv' := [(3, .int 45), (2, .int 0), (0, .ref h0), (1, .int 10)]) hx hb dX11_count_157 hl (k := 1) rfl (by decide) (by decide) rfl (fun ls hl => ?_)
    refine lv_goto (tgt := 139) hx hb dX11_count_160 (by decide) ?_
    refine lv_iload_n hx hb dX11_count_139 rfl (lv_at hl 0 rfl) ?_
    refine lv_bipush (v := 49) hx hb dX11_count_140 (by decide) ?_
    refine lv_icmp_ge (tgt := 163) hx hb dX11_count_142 (by decide) (fun h9 => absurd h9 (by decide)) (fun _ => ?_)
    refine lv_iload_n hx hb dX11_count_145 rfl (lv_at hl 1 rfl) ?_
    refine lv_aload_n hx hb dX11_count_146 rfl (lv_at hl 2 rfl) ?_
    refine va_get (D := G) (ci := 11) (v := .ref (v 20)) (C := RX11) (T := TX11) (N := 44) hx hb hts j_m_count_11 hown hE.K hP 0 rfl rfl 20 (by decide) (hts (.fieldLink RX11 39 "GossamerGateModel" "said" "[I") (List.mem_cons_of_mem _ (List.mem_append_left _ (List.mem_of_getElem? (i := 0) rfl)))) (fun _ h9 => h9) rfl dX11_count_147 ?_
    refine lv_bipush (v := 35) hx hb dX11_count_150 (by decide) ?_
    refine lv_iload_n hx hb dX11_count_152 rfl (lv_at hl 0 rfl) ?_
    refine lv_iadd hx hb dX11_count_153 ?_
    refine gz_ni (v := 80) (by decide) ?_
    refine va_iald hx hb hE.K hP 1 0 rfl rfl (gz_in (by decide)) dX11_count_154 ?_
    refine gz_ni (v := 0) rfl ?_
    refine lv_iadd hx hb dX11_count_155 ?_
    refine gz_ni (v := 0) (by decide) ?_
    refine lv_istore_n (lv' := [(2, .int 0), (3, .int 45), (0, .ref h0), (1, .int 10)]) hx hb dX11_count_156 rfl hl (by decide) rfl (fun ls hl => ?_)
    refine lv_iinc (v := 46) (lv' := [(3, .int 46), (2, .int 0), (0, .ref h0), (1, .int 10)]) hx hb dX11_count_157 hl (k := 1) rfl (by decide) (by decide) rfl (fun ls hl => ?_)
    refine lv_goto (tgt := 139) hx hb dX11_count_160 (by decide) ?_
    refine lv_iload_n hx hb dX11_count_139 rfl (lv_at hl 0 rfl) ?_
    refine lv_bipush (v := 49) hx hb dX11_count_140 (by decide) ?_
    refine lv_icmp_ge (tgt := 163) hx hb dX11_count_142 (by decide) (fun h9 => absurd h9 (by decide)) (fun _ => ?_)
    refine lv_iload_n hx hb dX11_count_145 rfl (lv_at hl 1 rfl) ?_
    refine lv_aload_n hx hb dX11_count_146 rfl (lv_at hl 2 rfl) ?_
    refine va_get (D := G) (ci := 11) (v := .ref (v 20)) (C := RX11) (T := TX11) (N := 44) hx hb hts j_m_count_11 hown hE.K hP 0 rfl rfl 20 (by decide) (hts (.fieldLink RX11 39 "GossamerGateModel" "said" "[I") (List.mem_cons_of_mem _ (List.mem_append_left _ (List.mem_of_getElem? (i := 0) rfl)))) (fun _ h9 => h9) rfl dX11_count_147 ?_
    refine lv_bipush (v := 35) hx hb dX11_count_150 (by decide) ?_
    refine lv_iload_n hx hb dX11_count_152 rfl (lv_at hl 0 rfl) ?_
    refine lv_iadd hx hb dX11_count_153 ?_
    refine gz_ni (v := 81) (by decide) ?_
    refine va_iald hx hb hE.K hP 1 0 rfl rfl (gz_in (by decide)) dX11_count_154 ?_
    refine gz_ni (v := 0) rfl ?_
    refine lv_iadd hx hb dX11_count_155 ?_
    refine gz_ni (v := 0) (by decide) ?_
    refine lv_istore_n (lv' := [(2, .int 0), (3, .int 46), (0, .ref h0), (1, .int 10)]) hx hb dX11_count_156 rfl hl (by decide) rfl (fun ls hl => ?_)
    refine lv_iinc (v := 47) (lv' := [(3, .int 47), (2, .int 0), (0, .ref h0), (1, .int 10)]) hx hb dX11_count_157 hl (k := 1) rfl (by decide) (by decide) rfl (fun ls hl => ?_)
    refine lv_goto (tgt := 139) hx hb dX11_count_160 (by decide) ?_
    refine lv_iload_n hx hb dX11_count_139 rfl (lv_at hl 0 rfl) ?_
    refine lv_bipush (v := 49) hx hb dX11_count_140 (by decide) ?_
    refine lv_icmp_ge (tgt := 163) hx hb dX11_count_142 (by decide) (fun h9 => absurd h9 (by decide)) (fun _ => ?_)
    refine lv_iload_n hx hb dX11_count_145 rfl (lv_at hl 1 rfl) ?_
    refine lv_aload_n hx hb dX11_count_146 rfl (lv_at hl 2 rfl) ?_
    refine va_get (D := G) (ci := 11) (v := .ref (v 20)) (C := RX11) (T := TX11) (N := 44) hx hb hts j_m_count_11 hown hE.K hP 0 rfl rfl 20 (by decide) (hts (.fieldLink RX11 39 "GossamerGateModel" "said" "[I") (List.mem_cons_of_mem _ (List.mem_append_left _ (List.mem_of_getElem? (i := 0) rfl)))) (fun _ h9 => h9) rfl dX11_count_147 ?_
    refine lv_bipush (v := 35) hx hb dX11_count_150 (by decide) ?_
    refine lv_iload_n hx hb dX11_count_152 rfl (lv_at hl 0 rfl) ?_
    refine lv_iadd hx hb dX11_count_153 ?_
    refine gz_ni (v := 82) (by decide) ?_
    refine va_iald hx hb hE.K hP 1 0 rfl rfl (gz_in (by decide)) dX11_count_154 ?_
    refine gz_ni (v := 0) rfl ?_
    refine lv_iadd hx hb dX11_count_155 ?_
    refine gz_ni (v := 0) (by decide) ?_
    refine lv_istore_n (lv' := [(2, .int 0), (3, .int 47), (0, .ref h0), (1, .int 10)]) hx hb dX11_count_156 rfl hl (by decide) rfl (fun ls hl => ?_)
    refine lv_iinc (v := 48) (lv' := [(3, .int 48), (2, .int 0), (0, .ref h0), (1, .int 10)]) hx hb dX11_count_157 hl (k := 1) rfl (by decide) (by decide) rfl (fun ls hl => ?_)
    refine lv_goto (tgt := 139) hx hb dX11_count_160 (by decide) ?_
    refine lv_iload_n hx hb dX11_count_139 rfl (lv_at hl 0 rfl) ?_
    refine lv_bipush (v := 49) hx hb dX11_count_140 (by decide) ?_
    refine lv_icmp_ge (tgt := 163) hx hb dX11_count_142 (by decide) (fun h9 => absurd h9 (by decide)) (fun _ => ?_)
    refine lv_iload_n hx hb dX11_count_145 rfl (lv_at hl 1 rfl) ?_
    refine lv_aload_n hx hb dX11_count_146 rfl (lv_at hl 2 rfl) ?_
    refine va_get (D := G) (ci := 11) (v := .ref (v 20)) (C := RX11) (T := TX11) (N := 44) hx hb hts j_m_count_11 hown hE.K hP 0 rfl rfl 20 (by decide) (hts (.fieldLink RX11 39 "GossamerGateModel" "said" "[I") (List.mem_cons_of_mem _ (List.mem_append_left _ (List.mem_of_getElem? (i := 0) rfl)))) (fun _ h9 => h9) rfl dX11_count_147 ?_
    refine lv_bipush (v := 35) hx hb dX11_count_150 (by decide) ?_
    refine lv_iload_n hx hb dX11_count_152 rfl (lv_at hl 0 rfl) ?_
    refine lv_iadd hx hb dX11_count_153 ?_
    refine gz_ni (v := 83) (by decide) ?_
    refine va_iald hx hb hE.K hP 1 0 rfl rfl (gz_in (by decide)) dX11_count_154 ?_
    refine gz_ni (v := 0) rfl ?_
    refine lv_iadd hx hb dX11_count_155 ?_
    refine gz_ni (v := 0) (by decide) ?_
    refine lv_istore_n (lv' := [(2, .int 0), (3, .int 48), (0, .ref h0), (1, .int 10)]) hx hb dX11_count_156 rfl hl (by decide) rfl (fun ls hl => ?_)
    refine lv_iinc (v := 49) (lv' := [(3, .int 49), (2, .int 0), (0, .ref h0), (1, .int 10)]) hx hb dX11_count_157 hl (k := 1) rfl (by decide) (by decide) rfl (fun ls hl => ?_)
    refine lv_goto (tgt := 139) hx hb dX11_count_160 (by decide) ?_
    refine lv_iload_n hx hb dX11_count_139 rfl (lv_at hl 0 rfl) ?_
    refine lv_bipush (v := 49) hx hb dX11_count_140 (by decide) ?_
    refine lv_icmp_ge (tgt := 163) hx hb dX11_count_142 (by decide) (fun _ => ?_) (fun h9 => absurd h9 (by decide))
    refine lv_iload_n hx hb dX11_count_163 rfl (lv_at hl 1 rfl) ?_
    exact W.iret (v := 0) hx hb hr (fun t ht hW => ⟨0, rfl, (Or.inl ⟨rfl, by decide⟩), ht⟩) (fun _ h9 => absurd h9 List.not_mem_nil) dX11_count_164
  · refine lv_tableIn (off := 162) (tgt := 165) hx hb dX11_count_3 (by decide) (by decide) (by decide) (by decide) ?_
    refine lv_aload_n hx hb dX11_count_165 rfl (lv_at hl 1 rfl) ?_
    refine va_get (D := G) (ci := 11) (v := .ref (v 20)) (C := RX11) (T := TX11) (N := 44) hx hb hts j_m_count_11 hown hE.K hP 0 rfl rfl 20 (by decide) (hts (.fieldLink RX11 39 "GossamerGateModel" "said" "[I") (List.mem_cons_of_mem _ (List.mem_append_left _ (List.mem_of_getElem? (i := 0) rfl)))) (fun _ h9 => h9) rfl dX11_count_166 ?_
    refine lv_sipush (v := 205) hx hb dX11_count_169 (by decide) ?_
    refine va_iald hx hb hE.K hP 1 0 rfl rfl (gz_in (by decide)) dX11_count_172 ?_
    refine gz_ni (v := 0) rfl ?_
    exact W.iret (v := 0) hx hb hr (fun t ht hW => ⟨0, rfl, (Or.inl ⟨rfl, by decide⟩), ht⟩) (fun _ h9 => absurd h9 List.not_mem_nil) dX11_count_173
  · refine lv_tableIn (off := 171) (tgt := 174) hx hb dX11_count_3 (by decide) (by decide) (by decide) (by decide) ?_
    refine lv_aload_n hx hb dX11_count_174 rfl (lv_at hl 1 rfl) ?_
    refine va_get (D := G) (ci := 11) (v := .int 0) (C := RX11) (T := TX11) (N := 44) hx hb hts j_m_count_11 hown hE.K hP 0 rfl rfl 31 (by decide) (hts (.fieldLink RX11 281 "GossamerGateModel" "undone" "I") (List.mem_cons_of_mem _ (List.mem_append_left _ (List.mem_of_getElem? (i := 13) rfl)))) (fun _ h9 => h9) rfl dX11_count_175 ?_
    exact W.iret (v := 0) hx hb hr (fun t ht hW => ⟨0, rfl, (Or.inl ⟨rfl, by decide⟩), ht⟩) (fun _ h9 => absurd h9 List.not_mem_nil) dX11_count_178
  · refine lv_tableIn (off := 176) (tgt := 179) hx hb dX11_count_3 (by decide) (by decide) (by decide) (by decide) ?_
    refine lv_aload_n hx hb dX11_count_179 rfl (lv_at hl 1 rfl) ?_
    refine va_get (D := G) (ci := 11) (v := .int 0) (C := RX11) (T := TX11) (N := 44) hx hb hts j_m_count_11 hown hE.K hP 0 rfl rfl 22 (by decide) (hts (.fieldLink RX11 463 "GossamerGateModel" "x" "I") (List.mem_cons_of_mem _ (List.mem_append_left _ (List.mem_of_getElem? (i := 14) rfl)))) (fun _ h9 => h9) rfl dX11_count_180 ?_
    exact W.iret (v := 0) hx hb hr (fun t ht hW => ⟨0, rfl, (Or.inl ⟨rfl, by decide⟩), ht⟩) (fun _ h9 => absurd h9 List.not_mem_nil) dX11_count_183
  · refine lv_tableIn (off := 181) (tgt := 184) hx hb dX11_count_3 (by decide) (by decide) (by decide) (by decide) ?_
    refine lv_aload_n hx hb dX11_count_184 rfl (lv_at hl 1 rfl) ?_
    refine va_get (D := G) (ci := 11) (v := .int 0) (C := RX11) (T := TX11) (N := 44) hx hb hts j_m_count_11 hown hE.K hP 0 rfl rfl 1 (by decide) (hts (.fieldLink RX11 92 "GossamerGateModel" "taped" "I") (List.mem_cons_of_mem _ (List.mem_append_left _ (List.mem_of_getElem? (i := 15) rfl)))) (fun _ h9 => h9) rfl dX11_count_185 ?_
    exact W.iret (v := 0) hx hb hr (fun t ht hW => ⟨0, rfl, (Or.inl ⟨rfl, by decide⟩), ht⟩) (fun _ h9 => absurd h9 List.not_mem_nil) dX11_count_188
set_option maxHeartbeats 4000000 in
set_option maxRecDepth 100000 in
theorem m_four_0 (l : Launch) (G : va_G) (k : Nat → ClassId) (sa : Nat → Nat) (sz : Nat) (h0 : Nat) (v : Nat → Nat) (a : Int32) (q : Nat → Int32) : Met l yX11_four vs_m_four_0 ({ frames := 0, cells := 0, slots := 0, locals := 0 } : Room) (gP G k sa [.ref h0, .int a] [(h0, .inr (11, [.ref (v 0), .int 0, .int 0, .ref (v 3), .ref (v 4), .ref (v 5), .ref (v 6), .ref (v 7), .int 0, .int 0, .int 0, .int 0, .int 0, .int 0, .int 0, .ref (v 15), .int 0, .ref (v 17), .int 0, .ref (v 19), .ref (v 20), .int (-1), .int 0, .ref (v 23), .int (-1), .int (-1), .int (-1), .int 0, .int (-1), .int 0, .ref (v 30), .int 0, .ref (v 32), .int 0, .int 0, .ref (v 35), .ref (v 36), .ref (v 37), .ref (v 38), .long 0, .ref (v 40), .ref (v 41), .ref (v 42), .ref (v 43)])), (v 0, .inl (k 6, 400, .inl q))] sz) (va_Qv (fun _ : Nat → Int32 => True) (gO G (va_A ([(h0, .inr (11, [.ref (v 0), .int 0, .int 0, .ref (v 3), .ref (v 4), .ref (v 5), .ref (v 6), .ref (v 7), .int 0, .int 0, .int 0, .int 0, .int 0, .int 0, .int 0, .ref (v 15), .int 0, .ref (v 17), .int 0, .ref (v 19), .ref (v 20), .int (-1), .int 0, .ref (v 23), .int (-1), .int (-1), .int (-1), .int 0, .int (-1), .int 0, .ref (v 30), .int 0, .ref (v 32), .int 0, .int 0, .ref (v 35), .ref (v 36), .ref (v 37), .ref (v 38), .long 0, .ref (v 40), .ref (v 41), .ref (v 42), .ref (v 43)])), (v 0, .inl (k 6, 400, .inl q))]) sz) (fun u => [(h0, .inr (11, [.ref (v 0), .int 4, .int 0, .ref (v 3), .ref (v 4), .ref (v 5), .ref (v 6), .ref (v 7), .int 0, .int 0, .int 0, .int 0, .int 0, .int 0, .int 0, .ref (v 15), .int 0, .ref (v 17), .int 0, .ref (v 19), .ref (v 20), .int (-1), .int 0, .ref (v 23), .int (-1), .int (-1), .int (-1), .int 0, .int (-1), .int 0, .ref (v 30), .int 0, .ref (v 32), .int 0, .int 0, .ref (v 35), .ref (v 36), .ref (v 37), .ref (v 38), .long 0, .ref (v 40), .ref (v 41), .ref (v 42), .ref (v 43)])), (v 0, .inl (k 6, 400, .inl u))])) (va_A ([(h0, .inr (11, [.ref (v 0), .int 0, .int 0, .ref (v 3), .ref (v 4), .ref (v 5), .ref (v 6), .ref (v 7), .int 0, .int 0, .int 0, .int 0, .int 0, .int 0, .int 0, .ref (v 15), .int 0, .ref (v 17), .int 0, .ref (v 19), .ref (v 20), .int (-1), .int 0, .ref (v 23), .int (-1), .int (-1), .int (-1), .int 0, .int (-1), .int 0, .ref (v 30), .int 0, .ref (v 32), .int 0, .int 0, .ref (v 35), .ref (v 36), .ref (v 37), .ref (v 38), .long 0, .ref (v 40), .ref (v 41), .ref (v 42), .ref (v 43)])), (v 0, .inl (k 6, 400, .inl q))]) sz)) 0 0 (va_A ([(h0, .inr (11, [.ref (v 0), .int 0, .int 0, .ref (v 3), .ref (v 4), .ref (v 5), .ref (v 6), .ref (v 7), .int 0, .int 0, .int 0, .int 0, .int 0, .int 0, .int 0, .ref (v 15), .int 0, .ref (v 17), .int 0, .ref (v 19), .ref (v 20), .int (-1), .int 0, .ref (v 23), .int (-1), .int (-1), .int (-1), .int 0, .int (-1), .int 0, .ref (v 30), .int 0, .ref (v 32), .int 0, .int 0, .ref (v 35), .ref (v 36), .ref (v 37), .ref (v 38), .long 0, .ref (v 40), .ref (v 41), .ref (v 42), .ref (v 43)])), (v 0, .inl (k 6, 400, .inl q))]) sz) := by
  refine gz_met (cc := cX11_four) (maxL := 3) (ret := none) (by decide) rfl (Nat.le_of_ble_eq_true rfl) ?_
  intro p_ e_ s_ m below_ meth_ c_ ls hx hb hr hml hts hown hlocks hin hP hE hD hA hS
  generalize hAe : va_A ([(h0, .inr (11, [.ref (v 0), .int 0, .int 0, .ref (v 3), .ref (v 4), .ref (v 5), .ref (v 6), .ref (v 7), .int 0, .int 0, .int 0, .int 0, .int 0, .int 0, .int 0, .ref (v 15), .int 0, .ref (v 17), .int 0, .ref (v 19), .ref (v 20), .int (-1), .int 0, .ref (v 23), .int (-1), .int (-1), .int (-1), .int 0, .int (-1), .int 0, .ref (v 30), .int 0, .ref (v 32), .int 0, .int 0, .ref (v 35), .ref (v 36), .ref (v 37), .ref (v 38), .long 0, .ref (v 40), .ref (v 41), .ref (v 42), .ref (v 43)])), (v 0, .inl (k 6, 400, .inl q))]) sz = A at hD hA hS ⊢
  intro hl
  have hl : lv_has ls 3 [(0, .ref h0), (1, .int a)] := hl
  refine lv_bipush (v := 24) hx hb dX11_four_0 (by decide) ?_
  refine lv_istore_n (lv' := [(2, .int 24), (0, .ref h0), (1, .int a)]) hx hb dX11_four_2 rfl hl (by decide) rfl (fun ls hl => ?_)
  refine lv_iload_n hx hb dX11_four_3 rfl (lv_at hl 0 rfl) ?_
  refine lv_if_lt (tgt := 36) hx hb dX11_four_4 (by decide) (fun h9 => absurd h9 (by decide)) (fun _ => ?_)
  refine lv_aload_n hx hb dX11_four_7 rfl (lv_at hl 1 rfl) ?_
  refine va_get (D := G) (ci := 11) (v := .ref (v 0)) (C := RX11) (T := TX11) (N := 44) hx hb hts j_m_four_0_11 hown hE.K hP 0 rfl rfl 0 (by decide) (hts (.fieldLink RX11 7 "GossamerGateModel" "tape" "[B") (List.mem_cons_of_mem _ (List.mem_append_left _ (List.mem_of_getElem? (i := 0) rfl)))) (fun _ h9 => h9) rfl dX11_four_8 ?_
  refine lv_aload_n hx hb dX11_four_11 rfl (lv_at hl 1 rfl) ?_
  refine va_get (D := G) (ci := 11) (v := .int 0) (C := RX11) (T := TX11) (N := 44) hx hb hts j_m_four_0_11 hown hE.K hP 0 rfl rfl 1 (by decide) (hts (.fieldLink RX11 92 "GossamerGateModel" "taped" "I") (List.mem_cons_of_mem _ (List.mem_append_left _ (List.mem_of_getElem? (i := 1) rfl)))) (fun _ h9 => h9) rfl dX11_four_12 ?_
  refine lv_iload_n hx hb dX11_four_15 rfl (lv_at hl 2 rfl) ?_
  refine lv_iload_n hx hb dX11_four_16 rfl (lv_at hl 0 rfl) ?_
  refine lv_ishr hx hb dX11_four_17 ?_
  obtain ⟨x_1, ex_1⟩ : ∃ y : Int32, y = ((a >>> (24 &&& 31))).toInt8.toInt32 := ⟨_, rfl⟩
  refine lv_i2b (v := x_1) hx hb dX11_four_18 ex_1.symm ?_
  refine va_bast hx hb hE.K hP hD hS 1 6 rfl rfl (gz_in (by decide)) dX11_four_19 (fun H locs hP hD hS => ?_)
  have hP : va_P G vwCl [(h0, .inr (11, [.ref (v 0), .int 0, .int 0, .ref (v 3), .ref (v 4), .ref (v 5), .ref (v 6), .ref (v 7), .int 0, .int 0, .int 0, .int 0, .int 0, .int 0, .int 0, .ref (v 15), .int 0, .ref (v 17), .int 0, .ref (v 19), .ref (v 20), .int (-1), .int 0, .ref (v 23), .int (-1), .int (-1), .int (-1), .int 0, .int (-1), .int 0, .ref (v 30), .int 0, .ref (v 32), .int 0, .int 0, .ref (v 35), .ref (v 36), .ref (v 37), .ref (v 38), .long 0, .ref (v 40), .ref (v 41), .ref (v 42), .ref (v 43)])), (v 0, .inl (k 6, 400, .inl (upd q 0 (vp_nar .byte x_1))))] H := hP
  have hD : va_D A [(h0, .inr (11, [.ref (v 0), .int 0, .int 0, .ref (v 3), .ref (v 4), .ref (v 5), .ref (v 6), .ref (v 7), .int 0, .int 0, .int 0, .int 0, .int 0, .int 0, .int 0, .ref (v 15), .int 0, .ref (v 17), .int 0, .ref (v 19), .ref (v 20), .int (-1), .int 0, .ref (v 23), .int (-1), .int (-1), .int (-1), .int 0, .int (-1), .int 0, .ref (v 30), .int 0, .ref (v 32), .int 0, .int 0, .ref (v 35), .ref (v 36), .ref (v 37), .ref (v 38), .long 0, .ref (v 40), .ref (v 41), .ref (v 42), .ref (v 43)])), (v 0, .inl (k 6, 400, .inl (upd q 0 (vp_nar .byte x_1))))] := hD
  refine lv_aload_n hx hb dX11_four_20 rfl (lv_at hl 1 rfl) ?_
  refine lv_dup hx hb dX11_four_21 rfl ?_
  refine va_get (D := G) (ci := 11) (v := .int 0) (C := RX11) (T := TX11) (N := 44) hx hb hts j_m_four_0_11 hown hE.K hP 0 rfl rfl 1 (by decide) (hts (.fieldLink RX11 92 "GossamerGateModel" "taped" "I") (List.mem_cons_of_mem _ (List.mem_append_left _ (List.mem_of_getElem? (i := 1) rfl)))) (fun _ h9 => h9) rfl dX11_four_22 ?_
  refine lv_iconst (v := 1) hx hb dX11_four_25 (by decide) ?_
  refine lv_iadd hx hb dX11_four_26 ?_
  refine gz_ni (v := 1) (by decide) ?_
  refine va_put (D := G) (ci := 11) (v := .int 1) (ty := .int) (C := RX11) (T := TX11) (N := 44) hx hb hts j_m_four_0_11 tyX11 tyX11_ok nmX11 hown hE.K hP hD hS 0 rfl rfl 1 (by decide) (hts (.fieldLink RX11 92 "GossamerGateModel" "taped" "I") (List.mem_cons_of_mem _ (List.mem_append_left _ (List.mem_of_getElem? (i := 1) rfl)))) (fun _ h9 => h9) rfl (by decide +kernel) rfl rfl (Nat.le_of_ble_eq_true rfl) dX11_four_27 (fun H locs hP hD hS => ?_)
  have hP : va_P G vwCl [(h0, .inr (11, [.ref (v 0), .int 1, .int 0, .ref (v 3), .ref (v 4), .ref (v 5), .ref (v 6), .ref (v 7), .int 0, .int 0, .int 0, .int 0, .int 0, .int 0, .int 0, .ref (v 15), .int 0, .ref (v 17), .int 0, .ref (v 19), .ref (v 20), .int (-1), .int 0, .ref (v 23), .int (-1), .int (-1), .int (-1), .int 0, .int (-1), .int 0, .ref (v 30), .int 0, .ref (v 32), .int 0, .int 0, .ref (v 35), .ref (v 36), .ref (v 37), .ref (v 38), .long 0, .ref (v 40), .ref (v 41), .ref (v 42), .ref (v 43)])), (v 0, .inl (k 6, 400, .inl (upd q 0 (vp_nar .byte x_1))))] H := hP
  have hD : va_D A [(h0, .inr (11, [.ref (v 0), .int 1, .int 0, .ref (v 3), .ref (v 4), .ref (v 5), .ref (v 6), .ref (v 7), .int 0, .int 0, .int 0, .int 0, .int 0, .int 0, .int 0, .ref (v 15), .int 0, .ref (v 17), .int 0, .ref (v 19), .ref (v 20), .int (-1), .int 0, .ref (v 23), .int (-1), .int (-1), .int (-1), .int 0, .int (-1), .int 0, .ref (v 30), .int 0, .ref (v 32), .int 0, .int 0, .ref (v 35), .ref (v 36), .ref (v 37), .ref (v 38), .long 0, .ref (v 40), .ref (v 41), .ref (v 42), .ref (v 43)])), (v 0, .inl (k 6, 400, .inl (upd q 0 (vp_nar .byte x_1))))] := hD
  refine lv_iinc (v := 16) (lv' := [(2, .int 16), (0, .ref h0), (1, .int a)]) hx hb dX11_four_30 hl (k := 0) rfl (by decide) (by decide) rfl (fun ls hl => ?_)
  refine lv_goto (tgt := 3) hx hb dX11_four_33 (by decide) ?_
  refine lv_iload_n hx hb dX11_four_3 rfl (lv_at hl 0 rfl) ?_
  refine lv_if_lt (tgt := 36) hx hb dX11_four_4 (by decide) (fun h9 => absurd h9 (by decide)) (fun _ => ?_)
  refine lv_aload_n hx hb dX11_four_7 rfl (lv_at hl 1 rfl) ?_
  refine va_get (D := G) (ci := 11) (v := .ref (v 0)) (C := RX11) (T := TX11) (N := 44) hx hb hts j_m_four_0_11 hown hE.K hP 0 rfl rfl 0 (by decide) (hts (.fieldLink RX11 7 "GossamerGateModel" "tape" "[B") (List.mem_cons_of_mem _ (List.mem_append_left _ (List.mem_of_getElem? (i := 0) rfl)))) (fun _ h9 => h9) rfl dX11_four_8 ?_
  refine lv_aload_n hx hb dX11_four_11 rfl (lv_at hl 1 rfl) ?_
  refine va_get (D := G) (ci := 11) (v := .int 1) (C := RX11) (T := TX11) (N := 44) hx hb hts j_m_four_0_11 hown hE.K hP 0 rfl rfl 1 (by decide) (hts (.fieldLink RX11 92 "GossamerGateModel" "taped" "I") (List.mem_cons_of_mem _ (List.mem_append_left _ (List.mem_of_getElem? (i := 1) rfl)))) (fun _ h9 => h9) rfl dX11_four_12 ?_
  refine lv_iload_n hx hb dX11_four_15 rfl (lv_at hl 2 rfl) ?_
  refine lv_iload_n hx hb dX11_four_16 rfl (lv_at hl 0 rfl) ?_
  refine lv_ishr hx hb dX11_four_17 ?_
  obtain ⟨x_2, ex_2⟩ : ∃ y : Int32, y = ((a >>> (16 &&& 31))).toInt8.toInt32 := ⟨_, rfl⟩
  refine lv_i2b (v := x_2) hx hb dX11_four_18 ex_2.symm ?_
  refine va_bast hx hb hE.K hP hD hS 1 6 rfl rfl (gz_in (by decide)) dX11_four_19 (fun H locs hP hD hS => ?_)
  have hP : va_P G vwCl [(h0, .inr (11, [.ref (v 0), .int 1, .int 0, .ref (v 3), .ref (v 4), .ref (v 5), .ref (v 6), .ref (v 7), .int 0, .int 0, .int 0, .int 0, .int 0, .int 0, .int 0, .ref (v 15), .int 0, .ref (v 17), .int 0, .ref (v 19), .ref (v 20), .int (-1), .int 0, .ref (v 23), .int (-1), .int (-1), .int (-1), .int 0, .int (-1), .int 0, .ref (v 30), .int 0, .ref (v 32), .int 0, .int 0, .ref (v 35), .ref (v 36), .ref (v 37), .ref (v 38), .long 0, .ref (v 40), .ref (v 41), .ref (v 42), .ref (v 43)])), (v 0, .inl (k 6, 400, .inl (upd (upd q 0 (vp_nar .byte x_1)) 1 (vp_nar .byte x_2))))] H := hP
  have hD : va_D A [(h0, .inr (11, [.ref (v 0), .int 1, .int 0, .ref (v 3), .ref (v 4), .ref (v 5), .ref (v 6), .ref (v 7), .int 0, .int 0, .int 0, .int 0, .int 0, .int 0, .int 0, .ref (v 15), .int 0, .ref (v 17), .int 0, .ref (v 19), .ref (v 20), .int (-1), .int 0, .ref (v 23), .int (-1), .int (-1), .int (-1), .int 0, .int (-1), .int 0, .ref (v 30), .int 0, .ref (v 32), .int 0, .int 0, .ref (v 35), .ref (v 36), .ref (v 37), .ref (v 38), .long 0, .ref (v 40), .ref (v 41), .ref (v 42), .ref (v 43)])), (v 0, .inl (k 6, 400, .inl (upd (upd q 0 (vp_nar .byte x_1)) 1 (vp_nar .byte x_2))))] := hD
  refine lv_aload_n hx hb dX11_four_20 rfl (lv_at hl 1 rfl) ?_
  refine lv_dup hx hb dX11_four_21 rfl ?_
  refine va_get (D := G) (ci := 11) (v := .int 1) (C := RX11) (T := TX11) (N := 44) hx hb hts j_m_four_0_11 hown hE.K hP 0 rfl rfl 1 (by decide) (hts (.fieldLink RX11 92 "GossamerGateModel" "taped" "I") (List.mem_cons_of_mem _ (List.mem_append_left _ (List.mem_of_getElem? (i := 1) rfl)))) (fun _ h9 => h9) rfl dX11_four_22 ?_
  refine lv_iconst (v := 1) hx hb dX11_four_25 (by decide) ?_
  refine lv_iadd hx hb dX11_four_26 ?_
  refine gz_ni (v := 2) (by decide) ?_
  refine va_put (D := G) (ci := 11) (v := .int 2) (ty := .int) (C := RX11) (T := TX11) (N := 44) hx hb hts j_m_four_0_11 tyX11 tyX11_ok nmX11 hown hE.K hP hD hS 0 rfl rfl 1 (by decide) (hts (.fieldLink RX11 92 "GossamerGateModel" "taped" "I") (List.mem_cons_of_mem _ (List.mem_append_left _ (List.mem_of_getElem? (i := 1) rfl)))) (fun _ h9 => h9) rfl (by decide +kernel) rfl rfl (Nat.le_of_ble_eq_true rfl) dX11_four_27 (fun H locs hP hD hS => ?_)
  have hP : va_P G vwCl [(h0, .inr (11, [.ref (v 0), .int 2, .int 0, .ref (v 3), .ref (v 4), .ref (v 5), .ref (v 6), .ref (v 7), .int 0, .int 0, .int 0, .int 0, .int 0, .int 0, .int 0, .ref (v 15), .int 0, .ref (v 17), .int 0, .ref (v 19), .ref (v 20), .int (-1), .int 0, .ref (v 23), .int (-1), .int (-1), .int (-1), .int 0, .int (-1), .int 0, .ref (v 30), .int 0, .ref (v 32), .int 0, .int 0, .ref (v 35), .ref (v 36), .ref (v 37), .ref (v 38), .long 0, .ref (v 40), .ref (v 41), .ref (v 42), .ref (v 43)])), (v 0, .inl (k 6, 400, .inl (upd (upd q 0 (vp_nar .byte x_1)) 1 (vp_nar .byte x_2))))] H := hP
  have hD : va_D A [(h0, .inr (11, [.ref (v 0), .int 2, .int 0, .ref (v 3), .ref (v 4), .ref (v 5), .ref (v 6), .ref (v 7), .int 0, .int 0, .int 0, .int 0, .int 0, .int 0, .int 0, .ref (v 15), .int 0, .ref (v 17), .int 0, .ref (v 19), .ref (v 20), .int (-1), .int 0, .ref (v 23), .int (-1), .int (-1), .int (-1), .int 0, .int (-1), .int 0, .ref (v 30), .int 0, .ref (v 32), .int 0, .int 0, .ref (v 35), .ref (v 36), .ref (v 37), .ref (v 38), .long 0, .ref (v 40), .ref (v 41), .ref (v 42), .ref (v 43)])), (v 0, .inl (k 6, 400, .inl (upd (upd q 0 (vp_nar .byte x_1)) 1 (vp_nar .byte x_2))))] := hD
  refine lv_iinc (v := 8) (lv' := [(2, .int 8), (0, .ref h0), (1, .int a)]) hx hb dX11_four_30 hl (k := 0) rfl (by decide) (by decide) rfl (fun ls hl => ?_)
  refine lv_goto (tgt := 3) hx hb dX11_four_33 (by decide) ?_
  refine lv_iload_n hx hb dX11_four_3 rfl (lv_at hl 0 rfl) ?_
  refine lv_if_lt (tgt := 36) hx hb dX11_four_4 (by decide) (fun h9 => absurd h9 (by decide)) (fun _ => ?_)
  refine lv_aload_n hx hb dX11_four_7 rfl (lv_at hl 1 rfl) ?_
  refine va_get (D := G) (ci := 11) (v := .ref (v 0)) (C := RX11) (T := TX11) (N := 44) hx hb hts j_m_four_0_11 hown hE.K hP 0 rfl rfl 0 (by decide) (hts (.fieldLink RX11 7 "GossamerGateModel" "tape" "[B") (List.mem_cons_of_mem _ (List.mem_append_left _ (List.mem_of_getElem? (i := 0) rfl)))) (fun _ h9 => h9) rfl dX11_four_8 ?_
  refine lv_aload_n hx hb dX11_four_11 rfl (lv_at hl 1 rfl) ?_
  refine va_get (D := G) (ci := 11) (v := .int 2) (C := RX11) (T := TX11) (N := 44) hx hb hts j_m_four_0_11 hown hE.K hP 0 rfl rfl 1 (by decide) (hts (.fieldLink RX11 92 "GossamerGateModel" "taped" "I") (List.mem_cons_of_mem _ (List.mem_append_left _ (List.mem_of_getElem? (i := 1) rfl)))) (fun _ h9 => h9) rfl dX11_four_12 ?_
  refine lv_iload_n hx hb dX11_four_15 rfl (lv_at hl 2 rfl) ?_
  refine lv_iload_n hx hb dX11_four_16 rfl (lv_at hl 0 rfl) ?_
  refine lv_ishr hx hb dX11_four_17 ?_
  obtain ⟨x_3, ex_3⟩ : ∃ y : Int32, y = ((a >>> (8 &&& 31))).toInt8.toInt32 := ⟨_, rfl⟩
  refine lv_i2b (v := x_3) hx hb dX11_four_18 ex_3.symm ?_
  refine va_bast hx hb hE.K hP hD hS 1 6 rfl rfl (gz_in (by decide)) dX11_four_19 (fun H locs hP hD hS => ?_)
  have hP : va_P G vwCl [(h0, .inr (11, [.ref (v 0), .int 2, .int 0, .ref (v 3), .ref (v 4), .ref (v 5), .ref (v 6), .ref (v 7), .int 0, .int 0, .int 0, .int 0, .int 0, .int 0, .int 0, .ref (v 15), .int 0, .ref (v 17), .int 0, .ref (v 19), .ref (v 20), .int (-1), .int 0, .ref (v 23), .int (-1), .int (-1), .int (-1), .int 0, .int (-1), .int 0, .ref (v 30), .int 0, .ref (v 32), .int 0, .int 0, .ref (v 35), .ref (v 36), .ref (v 37), .ref (v 38), .long 0, .ref (v 40), .ref (v 41), .ref (v 42), .ref (v 43)])), (v 0, .inl (k 6, 400, .inl (upd (upd (upd q 0 (vp_nar .byte x_1)) 1 (vp_nar .byte x_2)) 2 (vp_nar .byte x_3))))] H := hP
  have hD : va_D A [(h0, .inr (11, [.ref (v 0), .int 2, .int 0, .ref (v 3), .ref (v 4), .ref (v 5), .ref (v 6), .ref (v 7), .int 0, .int 0, .int 0, .int 0, .int 0, .int 0, .int 0, .ref (v 15), .int 0, .ref (v 17), .int 0, .ref (v 19), .ref (v 20), .int (-1), .int 0, .ref (v 23), .int (-1), .int (-1), .int (-1), .int 0, .int (-1), .int 0, .ref (v 30), .int 0, .ref (v 32), .int 0, .int 0, .ref (v 35), .ref (v 36), .ref (v 37), .ref (v 38), .long 0, .ref (v 40), .ref (v 41), .ref (v 42), .ref (v 43)])), (v 0, .inl (k 6, 400, .inl (upd (upd (upd q 0 (vp_nar .byte x_1)) 1 (vp_nar .byte x_2)) 2 (vp_nar .byte x_3))))] := hD
  refine lv_aload_n hx hb dX11_four_20 rfl (lv_at hl 1 rfl) ?_
  refine lv_dup hx hb dX11_four_21 rfl ?_
  refine va_get (D := G) (ci := 11) (v := .int 2) (C := RX11) (T := TX11) (N := 44) hx hb hts j_m_four_0_11 hown hE.K hP 0 rfl rfl 1 (by decide) (hts (.fieldLink RX11 92 "GossamerGateModel" "taped" "I") (List.mem_cons_of_mem _ (List.mem_append_left _ (List.mem_of_getElem? (i := 1) rfl)))) (fun _ h9 => h9) rfl dX11_four_22 ?_
  refine lv_iconst (v := 1) hx hb dX11_four_25 (by decide) ?_
  refine lv_iadd hx hb dX11_four_26 ?_
  refine gz_ni (v := 3) (by decide) ?_
  refine va_put (D := G) (ci := 11) (v := .int 3) (ty := .int) (C := RX11) (T := TX11) (N := 44) hx hb hts j_m_four_0_11 tyX11 tyX11_ok nmX11 hown hE.K hP hD hS 0 rfl rfl 1 (by decide) (hts (.fieldLink RX11 92 "GossamerGateModel" "taped" "I") (List.mem_cons_of_mem _ (List.mem_append_left _ (List.mem_of_getElem? (i := 1) rfl)))) (fun _ h9 => h9) rfl (by decide +kernel) rfl rfl (Nat.le_of_ble_eq_true rfl) dX11_four_27 (fun H locs hP hD hS => ?_)
  have hP : va_P G vwCl [(h0, .inr (11, [.ref (v 0), .int 3, .int 0, .ref (v 3), .ref (v 4), .ref (v 5), .ref (v 6), .ref (v 7), .int 0, .int 0, .int 0, .int 0, .int 0, .int 0, .int 0, .ref (v 15), .int 0, .ref (v 17), .int 0, .ref (v 19), .ref (v 20), .int (-1), .int 0, .ref (v 23), .int (-1), .int (-1), .int (-1), .int 0, .int (-1), .int 0, .ref (v 30), .int 0, .ref (v 32), .int 0, .int 0, .ref (v 35), .ref (v 36), .ref (v 37), .ref (v 38), .long 0, .ref (v 40), .ref (v 41), .ref (v 42), .ref (v 43)])), (v 0, .inl (k 6, 400, .inl (upd (upd (upd q 0 (vp_nar .byte x_1)) 1 (vp_nar .byte x_2)) 2 (vp_nar .byte x_3))))] H := hP
  have hD : va_D A [(h0, .inr (11, [.ref (v 0), .int 3, .int 0, .ref (v 3), .ref (v 4), .ref (v 5), .ref (v 6), .ref (v 7), .int 0, .int 0, .int 0, .int 0, .int 0, .int 0, .int 0, .ref (v 15), .int 0, .ref (v 17), .int 0, .ref (v 19), .ref (v 20), .int (-1), .int 0, .ref (v 23), .int (-1), .int (-1), .int (-1), .int 0, .int (-1), .int 0, .ref (v 30), .int 0, .ref (v 32), .int 0, .int 0, .ref (v 35), .ref (v 36), .ref (v 37), .ref (v 38), .long 0, .ref (v 40), .ref (v 41), .ref (v 42), .ref (v 43)])), (v 0, .inl (k 6, 400, .inl (upd (upd (upd q 0 (vp_nar .byte x_1)) 1 (vp_nar .byte x_2)) 2 (vp_nar .byte x_3))))] := hD
  refine lv_iinc (v := 0) (lv' := [(2, .int 0), (0, .ref h0), (1, .int a)]) hx hb dX11_four_30 hl (k := 0) rfl (by decide) (by decide) rfl (fun ls hl => ?_)
  refine lv_goto (tgt := 3) hx hb dX11_four_33 (by decide) ?_
  refine lv_iload_n hx hb dX11_four_3 rfl (lv_at hl 0 rfl) ?_
  refine lv_if_lt (tgt := 36) hx hb dX11_four_4 (by decide) (fun h9 => absurd h9 (by decide)) (fun _ => ?_)
  refine lv_aload_n hx hb dX11_four_7 rfl (lv_at hl 1 rfl) ?_
  refine va_get (D := G) (ci := 11) (v := .ref (v 0)) (C := RX11) (T := TX11) (N := 44) hx hb hts j_m_four_0_11 hown hE.K hP 0 rfl rfl 0 (by decide) (hts (.fieldLink RX11 7 "GossamerGateModel" "tape" "[B") (List.mem_cons_of_mem _ (List.mem_append_left _ (List.mem_of_getElem? (i := 0) rfl)))) (fun _ h9 => h9) rfl dX11_four_8 ?_
  refine lv_aload_n hx hb dX11_four_11 rfl (lv_at hl 1 rfl) ?_
  refine va_get (D := G) (ci := 11) (v := .int 3) (C := RX11) (T := TX11) (N := 44) hx hb hts j_m_four_0_11 hown hE.K hP 0 rfl rfl 1 (by decide) (hts (.fieldLink RX11 92 "GossamerGateModel" "taped" "I") (List.mem_cons_of_mem _ (List.mem_append_left _ (List.mem_of_getElem? (i := 1) rfl)))) (fun _ h9 => h9) rfl dX11_four_12 ?_
  refine lv_iload_n hx hb dX11_four_15 rfl (lv_at hl 2 rfl) ?_
  refine lv_iload_n hx hb dX11_four_16 rfl (lv_at hl 0 rfl) ?_
  refine lv_ishr hx hb dX11_four_17 ?_
  obtain ⟨x_4, ex_4⟩ : ∃ y : Int32, y = ((a >>> (0 &&& 31))).toInt8.toInt32 := ⟨_, rfl⟩
  refine lv_i2b (v := x_4) hx hb dX11_four_18 ex_4.symm ?_
  refine va_bast hx hb hE.K hP hD hS 1 6 rfl rfl (gz_in (by decide)) dX11_four_19 (fun H locs hP hD hS => ?_)
  have hP : va_P G vwCl [(h0, .inr (11, [.ref (v 0), .int 3, .int 0, .ref (v 3), .ref (v 4), .ref (v 5), .ref (v 6), .ref (v 7), .int 0, .int 0, .int 0, .int 0, .int 0, .int 0, .int 0, .ref (v 15), .int 0, .ref (v 17), .int 0, .ref (v 19), .ref (v 20), .int (-1), .int 0, .ref (v 23), .int (-1), .int (-1), .int (-1), .int 0, .int (-1), .int 0, .ref (v 30), .int 0, .ref (v 32), .int 0, .int 0, .ref (v 35), .ref (v 36), .ref (v 37), .ref (v 38), .long 0, .ref (v 40), .ref (v 41), .ref (v 42), .ref (v 43)])), (v 0, .inl (k 6, 400, .inl (upd (upd (upd (upd q 0 (vp_nar .byte x_1)) 1 (vp_nar .byte x_2)) 2 (vp_nar .byte x_3)) 3 (vp_nar .byte x_4))))] H := hP
  have hD : va_D A [(h0, .inr (11, [.ref (v 0), .int 3, .int 0, .ref (v 3), .ref (v 4), .ref (v 5), .ref (v 6), .ref (v 7), .int 0, .int 0, .int 0, .int 0, .int 0, .int 0, .int 0, .ref (v 15), .int 0, .ref (v 17), .int 0, .ref (v 19), .ref (v 20), .int (-1), .int 0, .ref (v 23), .int (-1), .int (-1), .int (-1), .int 0, .int (-1), .int 0, .ref (v 30), .int 0, .ref (v 32), .int 0, .int 0, .ref (v 35), .ref (v 36), .ref (v 37), .ref (v 38), .long 0, .ref (v 40), .ref (v 41), .ref (v 42), .ref (v 43)])), (v 0, .inl (k 6, 400, .inl (upd (upd (upd (upd q 0 (vp_nar .byte x_1)) 1 (vp_nar .byte x_2)) 2 (vp_nar .byte x_3)) 3 (vp_nar .byte x_4))))] := hD
  refine lv_aload_n hx hb dX11_four_20 rfl (lv_at hl 1 rfl) ?_
  refine lv_dup hx hb dX11_four_21 rfl ?_
  refine va_get (D := G) (ci := 11) (v := .int 3) (C := RX11) (T := TX11) (N := 44) hx hb hts j_m_four_0_11 hown hE.K hP 0 rfl rfl 1 (by decide) (hts (.fieldLink RX11 92 "GossamerGateModel" "taped" "I") (List.mem_cons_of_mem _ (List.mem_append_left _ (List.mem_of_getElem? (i := 1) rfl)))) (fun _ h9 => h9) rfl dX11_four_22 ?_
  refine lv_iconst (v := 1) hx hb dX11_four_25 (by decide) ?_
  refine lv_iadd hx hb dX11_four_26 ?_
  refine gz_ni (v := 4) (by decide) ?_
  refine va_put (D := G) (ci := 11) (v := .int 4) (ty := .int) (C := RX11) (T := TX11) (N := 44) hx hb hts j_m_four_0_11 tyX11 tyX11_ok nmX11 hown hE.K hP hD hS 0 rfl rfl 1 (by decide) (hts (.fieldLink RX11 92 "GossamerGateModel" "taped" "I") (List.mem_cons_of_mem _ (List.mem_append_left _ (List.mem_of_getElem? (i := 1) rfl)))) (fun _ h9 => h9) rfl (by decide +kernel) rfl rfl (Nat.le_of_ble_eq_true rfl) dX11_four_27 (fun H locs hP hD hS => ?_)
  have hP : va_P G vwCl [(h0, .inr (11, [.ref (v 0), .int 4, .int 0, .ref (v 3), .ref (v 4), .ref (v 5), .ref (v 6), .ref (v 7), .int 0, .int 0, .int 0, .int 0, .int 0, .int 0, .int 0, .ref (v 15), .int 0, .ref (v 17), .int 0, .ref (v 19), .ref (v 20), .int (-1), .int 0, .ref (v 23), .int (-1), .int (-1), .int (-1), .int 0, .int (-1), .int 0, .ref (v 30), .int 0, .ref (v 32), .int 0, .int 0, .ref (v 35), .ref (v 36), .ref (v 37), .ref (v 38), .long 0, .ref (v 40), .ref (v 41), .ref (v 42), .ref (v 43)])), (v 0, .inl (k 6, 400, .inl (upd (upd (upd (upd q 0 (vp_nar .byte x_1)) 1 (vp_nar .byte x_2)) 2 (vp_nar .byte x_3)) 3 (vp_nar .byte x_4))))] H := hP
  have hD : va_D A [(h0, .inr (11, [.ref (v 0), .int 4, .int 0, .ref (v 3), .ref (v 4), .ref (v 5), .ref (v 6), .ref (v 7), .int 0, .int 0, .int 0, .int 0, .int 0, .int 0, .int 0, .ref (v 15), .int 0, .ref (v 17), .int 0, .ref (v 19), .ref (v 20), .int (-1), .int 0, .ref (v 23), .int (-1), .int (-1), .int (-1), .int 0, .int (-1), .int 0, .ref (v 30), .int 0, .ref (v 32), .int 0, .int 0, .ref (v 35), .ref (v 36), .ref (v 37), .ref (v 38), .long 0, .ref (v 40), .ref (v 41), .ref (v 42), .ref (v 43)])), (v 0, .inl (k 6, 400, .inl (upd (upd (upd (upd q 0 (vp_nar .byte x_1)) 1 (vp_nar .byte x_2)) 2 (vp_nar .byte x_3)) 3 (vp_nar .byte x_4))))] := hD
  refine lv_iinc (v := (-8)) (lv' := [(2, .int (-8)), (0, .ref h0), (1, .int a)]) hx hb dX11_four_30 hl (k := 0) rfl (by decide) (by decide) rfl (fun ls hl => ?_)
  refine lv_goto (tgt := 3) hx hb dX11_four_33 (by decide) ?_
  refine lv_iload_n hx hb dX11_four_3 rfl (lv_at hl 0 rfl) ?_
  refine lv_if_lt (tgt := 36) hx hb dX11_four_4 (by decide) (fun _ => ?_) (fun h9 => absurd h9 (by decide))
  have hP9 := hP.sub (ws' := [(h0, .inr (11, [.ref (v 0), .int 4, .int 0, .ref (v 3), .ref (v 4), .ref (v 5), .ref (v 6), .ref (v 7), .int 0, .int 0, .int 0, .int 0, .int 0, .int 0, .int 0, .ref (v 15), .int 0, .ref (v 17), .int 0, .ref (v 19), .ref (v 20), .int (-1), .int 0, .ref (v 23), .int (-1), .int (-1), .int (-1), .int 0, .int (-1), .int 0, .ref (v 30), .int 0, .ref (v 32), .int 0, .int 0, .ref (v 35), .ref (v 36), .ref (v 37), .ref (v 38), .long 0, .ref (v 40), .ref (v 41), .ref (v 42), .ref (v 43)])), (v 0, .inl (k 6, 400, .inl (upd (upd (upd (upd q 0 (vp_nar .byte x_1)) 1 (vp_nar .byte x_2)) 2 (vp_nar .byte x_3)) 3 (vp_nar .byte x_4))))]) [0, 1] rfl
  have hD9 := hD.sub (ws' := [(h0, .inr (11, [.ref (v 0), .int 4, .int 0, .ref (v 3), .ref (v 4), .ref (v 5), .ref (v 6), .ref (v 7), .int 0, .int 0, .int 0, .int 0, .int 0, .int 0, .int 0, .ref (v 15), .int 0, .ref (v 17), .int 0, .ref (v 19), .ref (v 20), .int (-1), .int 0, .ref (v 23), .int (-1), .int (-1), .int (-1), .int 0, .int (-1), .int 0, .ref (v 30), .int 0, .ref (v 32), .int 0, .int 0, .ref (v 35), .ref (v 36), .ref (v 37), .ref (v 38), .long 0, .ref (v 40), .ref (v 41), .ref (v 42), .ref (v 43)])), (v 0, .inl (k 6, 400, .inl (upd (upd (upd (upd q 0 (vp_nar .byte x_1)) 1 (vp_nar .byte x_2)) 2 (vp_nar .byte x_3)) 3 (vp_nar .byte x_4))))]) [0, 1] (by decide) rfl
  exact W.vret hx hb hr (fun t ht hW => ⟨⟨upd (upd (upd (upd q 0 (vp_nar .byte x_1)) 1 (vp_nar .byte x_2)) 2 (vp_nar .byte x_3)) 3 (vp_nar .byte x_4), rfl, trivial, by rw [ht]; exact hP9, hD9⟩, hS.F ht⟩) hS.2.2 dX11_four_36
set_option maxHeartbeats 4000000 in
set_option maxRecDepth 100000 in
theorem m_four_4 (l : Launch) (G : va_G) (k : Nat → ClassId) (sa : Nat → Nat) (sz : Nat) (h0 : Nat) (v : Nat → Nat) (a : Int32) (q : Nat → Int32) : Met l yX11_four vs_m_four_4 ({ frames := 0, cells := 0, slots := 0, locals := 0 } : Room) (gP G k sa [.ref h0, .int a] [(h0, .inr (11, [.ref (v 0), .int 4, .int 0, .ref (v 3), .ref (v 4), .ref (v 5), .ref (v 6), .ref (v 7), .int 0, .int 0, .int 0, .int 0, .int 0, .int 0, .int 0, .ref (v 15), .int 0, .ref (v 17), .int 0, .ref (v 19), .ref (v 20), .int (-1), .int 0, .ref (v 23), .int (-1), .int (-1), .int (-1), .int 0, .int (-1), .int 0, .ref (v 30), .int 0, .ref (v 32), .int 0, .int 0, .ref (v 35), .ref (v 36), .ref (v 37), .ref (v 38), .long 0, .ref (v 40), .ref (v 41), .ref (v 42), .ref (v 43)])), (v 0, .inl (k 6, 400, .inl q))] sz) (va_Qv (fun _ : Nat → Int32 => True) (gO G (va_A ([(h0, .inr (11, [.ref (v 0), .int 4, .int 0, .ref (v 3), .ref (v 4), .ref (v 5), .ref (v 6), .ref (v 7), .int 0, .int 0, .int 0, .int 0, .int 0, .int 0, .int 0, .ref (v 15), .int 0, .ref (v 17), .int 0, .ref (v 19), .ref (v 20), .int (-1), .int 0, .ref (v 23), .int (-1), .int (-1), .int (-1), .int 0, .int (-1), .int 0, .ref (v 30), .int 0, .ref (v 32), .int 0, .int 0, .ref (v 35), .ref (v 36), .ref (v 37), .ref (v 38), .long 0, .ref (v 40), .ref (v 41), .ref (v 42), .ref (v 43)])), (v 0, .inl (k 6, 400, .inl q))]) sz) (fun u => [(h0, .inr (11, [.ref (v 0), .int 8, .int 0, .ref (v 3), .ref (v 4), .ref (v 5), .ref (v 6), .ref (v 7), .int 0, .int 0, .int 0, .int 0, .int 0, .int 0, .int 0, .ref (v 15), .int 0, .ref (v 17), .int 0, .ref (v 19), .ref (v 20), .int (-1), .int 0, .ref (v 23), .int (-1), .int (-1), .int (-1), .int 0, .int (-1), .int 0, .ref (v 30), .int 0, .ref (v 32), .int 0, .int 0, .ref (v 35), .ref (v 36), .ref (v 37), .ref (v 38), .long 0, .ref (v 40), .ref (v 41), .ref (v 42), .ref (v 43)])), (v 0, .inl (k 6, 400, .inl u))])) (va_A ([(h0, .inr (11, [.ref (v 0), .int 4, .int 0, .ref (v 3), .ref (v 4), .ref (v 5), .ref (v 6), .ref (v 7), .int 0, .int 0, .int 0, .int 0, .int 0, .int 0, .int 0, .ref (v 15), .int 0, .ref (v 17), .int 0, .ref (v 19), .ref (v 20), .int (-1), .int 0, .ref (v 23), .int (-1), .int (-1), .int (-1), .int 0, .int (-1), .int 0, .ref (v 30), .int 0, .ref (v 32), .int 0, .int 0, .ref (v 35), .ref (v 36), .ref (v 37), .ref (v 38), .long 0, .ref (v 40), .ref (v 41), .ref (v 42), .ref (v 43)])), (v 0, .inl (k 6, 400, .inl q))]) sz)) 0 0 (va_A ([(h0, .inr (11, [.ref (v 0), .int 4, .int 0, .ref (v 3), .ref (v 4), .ref (v 5), .ref (v 6), .ref (v 7), .int 0, .int 0, .int 0, .int 0, .int 0, .int 0, .int 0, .ref (v 15), .int 0, .ref (v 17), .int 0, .ref (v 19), .ref (v 20), .int (-1), .int 0, .ref (v 23), .int (-1), .int (-1), .int (-1), .int 0, .int (-1), .int 0, .ref (v 30), .int 0, .ref (v 32), .int 0, .int 0, .ref (v 35), .ref (v 36), .ref (v 37), .ref (v 38), .long 0, .ref (v 40), .ref (v 41), .ref (v 42), .ref (v 43)])), (v 0, .inl (k 6, 400, .inl q))]) sz) := by
  refine gz_met (cc := cX11_four) (maxL := 3) (ret := none) (by decide) rfl (Nat.le_of_ble_eq_true rfl) ?_
  intro p_ e_ s_ m below_ meth_ c_ ls hx hb hr hml hts hown hlocks hin hP hE hD hA hS
  generalize hAe : va_A ([(h0, .inr (11, [.ref (v 0), .int 4, .int 0, .ref (v 3), .ref (v 4), .ref (v 5), .ref (v 6), .ref (v 7), .int 0, .int 0, .int 0, .int 0, .int 0, .int 0, .int 0, .ref (v 15), .int 0, .ref (v 17), .int 0, .ref (v 19), .ref (v 20), .int (-1), .int 0, .ref (v 23), .int (-1), .int (-1), .int (-1), .int 0, .int (-1), .int 0, .ref (v 30), .int 0, .ref (v 32), .int 0, .int 0, .ref (v 35), .ref (v 36), .ref (v 37), .ref (v 38), .long 0, .ref (v 40), .ref (v 41), .ref (v 42), .ref (v 43)])), (v 0, .inl (k 6, 400, .inl q))]) sz = A at hD hA hS ⊢
  intro hl
  have hl : lv_has ls 3 [(0, .ref h0), (1, .int a)] := hl
  refine lv_bipush (v := 24) hx hb dX11_four_0 (by decide) ?_
  refine lv_istore_n (lv' := [(2, .int 24), (0, .ref h0), (1, .int a)]) hx hb dX11_four_2 rfl hl (by decide) rfl (fun ls hl => ?_)
  refine lv_iload_n hx hb dX11_four_3 rfl (lv_at hl 0 rfl) ?_
  refine lv_if_lt (tgt := 36) hx hb dX11_four_4 (by decide) (fun h9 => absurd h9 (by decide)) (fun _ => ?_)
  refine lv_aload_n hx hb dX11_four_7 rfl (lv_at hl 1 rfl) ?_
  refine va_get (D := G) (ci := 11) (v := .ref (v 0)) (C := RX11) (T := TX11) (N := 44) hx hb hts j_m_four_4_11 hown hE.K hP 0 rfl rfl 0 (by decide) (hts (.fieldLink RX11 7 "GossamerGateModel" "tape" "[B") (List.mem_cons_of_mem _ (List.mem_append_left _ (List.mem_of_getElem? (i := 0) rfl)))) (fun _ h9 => h9) rfl dX11_four_8 ?_
  refine lv_aload_n hx hb dX11_four_11 rfl (lv_at hl 1 rfl) ?_
  refine va_get (D := G) (ci := 11) (v := .int 4) (C := RX11) (T := TX11) (N := 44) hx hb hts j_m_four_4_11 hown hE.K hP 0 rfl rfl 1 (by decide) (hts (.fieldLink RX11 92 "GossamerGateModel" "taped" "I") (List.mem_cons_of_mem _ (List.mem_append_left _ (List.mem_of_getElem? (i := 1) rfl)))) (fun _ h9 => h9) rfl dX11_four_12 ?_
  refine lv_iload_n hx hb dX11_four_15 rfl (lv_at hl 2 rfl) ?_
  refine lv_iload_n hx hb dX11_four_16 rfl (lv_at hl 0 rfl) ?_
  refine lv_ishr hx hb dX11_four_17 ?_
  obtain ⟨x_1, ex_1⟩ : ∃ y : Int32, y = ((a >>> (24 &&& 31))).toInt8.toInt32 := ⟨_, rfl⟩
  refine lv_i2b (v := x_1) hx hb dX11_four_18 ex_1.symm ?_
  refine va_bast hx hb hE.K hP hD hS 1 6 rfl rfl (gz_in (by decide)) dX11_four_19 (fun H locs hP hD hS => ?_)
  have hP : va_P G vwCl [(h0, .inr (11, [.ref (v 0), .int 4, .int 0, .ref (v 3), .ref (v 4), .ref (v 5), .ref (v 6), .ref (v 7), .int 0, .int 0, .int 0, .int 0, .int 0, .int 0, .int 0, .ref (v 15), .int 0, .ref (v 17), .int 0, .ref (v 19), .ref (v 20), .int (-1), .int 0, .ref (v 23), .int (-1), .int (-1), .int (-1), .int 0, .int (-1), .int 0, .ref (v 30), .int 0, .ref (v 32), .int 0, .int 0, .ref (v 35), .ref (v 36), .ref (v 37), .ref (v 38), .long 0, .ref (v 40), .ref (v 41), .ref (v 42), .ref (v 43)])), (v 0, .inl (k 6, 400, .inl (upd q 4 (vp_nar .byte x_1))))] H := hP
  have hD : va_D A [(h0, .inr (11, [.ref (v 0), .int 4, .int 0, .ref (v 3), .ref (v 4), .ref (v 5), .ref (v 6), .ref (v 7), .int 0, .int 0, .int 0, .int 0, .int 0, .int 0, .int 0, .ref (v 15), .int 0, .ref (v 17), .int 0, .ref (v 19), .ref (v 20), .int (-1), .int 0, .ref (v 23), .int (-1), .int (-1), .int (-1), .int 0, .int (-1), .int 0, .ref (v 30), .int 0, .ref (v 32), .int 0, .int 0, .ref (v 35), .ref (v 36), .ref (v 37), .ref (v 38), .long 0, .ref (v 40), .ref (v 41), .ref (v 42), .ref (v 43)])), (v 0, .inl (k 6, 400, .inl (upd q 4 (vp_nar .byte x_1))))] := hD
  refine lv_aload_n hx hb dX11_four_20 rfl (lv_at hl 1 rfl) ?_
  refine lv_dup hx hb dX11_four_21 rfl ?_
  refine va_get (D := G) (ci := 11) (v := .int 4) (C := RX11) (T := TX11) (N := 44) hx hb hts j_m_four_4_11 hown hE.K hP 0 rfl rfl 1 (by decide) (hts (.fieldLink RX11 92 "GossamerGateModel" "taped" "I") (List.mem_cons_of_mem _ (List.mem_append_left _ (List.mem_of_getElem? (i := 1) rfl)))) (fun _ h9 => h9) rfl dX11_four_22 ?_
  refine lv_iconst (v := 1) hx hb dX11_four_25 (by decide) ?_
  refine lv_iadd hx hb dX11_four_26 ?_
  refine gz_ni (v := 5) (by decide) ?_
  refine va_put (D := G) (ci := 11) (v := .int 5) (ty := .int) (C := RX11) (T := TX11) (N := 44) hx hb hts j_m_four_4_11 tyX11 tyX11_ok nmX11 hown hE.K hP hD hS 0 rfl rfl 1 (by decide) (hts (.fieldLink RX11 92 "GossamerGateModel" "taped" "I") (List.mem_cons_of_mem _ (List.mem_append_left _ (List.mem_of_getElem? (i := 1) rfl)))) (fun _ h9 => h9) rfl (by decide +kernel) rfl rfl (Nat.le_of_ble_eq_true rfl) dX11_four_27 (fun H locs hP hD hS => ?_)
  have hP : va_P G vwCl [(h0, .inr (11, [.ref (v 0), .int 5, .int 0, .ref (v 3), .ref (v 4), .ref (v 5), .ref (v 6), .ref (v 7), .int 0, .int 0, .int 0, .int 0, .int 0, .int 0, .int 0, .ref (v 15), .int 0, .ref (v 17), .int 0, .ref (v 19), .ref (v 20), .int (-1), .int 0, .ref (v 23), .int (-1), .int (-1), .int (-1), .int 0, .int (-1), .int 0, .ref (v 30), .int 0, .ref (v 32), .int 0, .int 0, .ref (v 35), .ref (v 36), .ref (v 37), .ref (v 38), .long 0, .ref (v 40), .ref (v 41), .ref (v 42), .ref (v 43)])), (v 0, .inl (k 6, 400, .inl (upd q 4 (vp_nar .byte x_1))))] H := hP
  have hD : va_D A [(h0, .inr (11, [.ref (v 0), .int 5, .int 0, .ref (v 3), .ref (v 4), .ref (v 5), .ref (v 6), .ref (v 7), .int 0, .int 0, .int 0, .int 0, .int 0, .int 0, .int 0, .ref (v 15), .int 0, .ref (v 17), .int 0, .ref (v 19), .ref (v 20), .int (-1), .int 0, .ref (v 23), .int (-1), .int (-1), .int (-1), .int 0, .int (-1), .int 0, .ref (v 30), .int 0, .ref (v 32), .int 0, .int 0, .ref (v 35), .ref (v 36), .ref (v 37), .ref (v 38), .long 0, .ref (v 40), .ref (v 41), .ref (v 42), .ref (v 43)])), (v 0, .inl (k 6, 400, .inl (upd q 4 (vp_nar .byte x_1))))] := hD
  refine lv_iinc (v := 16) (lv' := [(2, .int 16), (0, .ref h0), (1, .int a)]) hx hb dX11_four_30 hl (k := 0) rfl (by decide) (by decide) rfl (fun ls hl => ?_)
  refine lv_goto (tgt := 3) hx hb dX11_four_33 (by decide) ?_
  refine lv_iload_n hx hb dX11_four_3 rfl (lv_at hl 0 rfl) ?_
  refine lv_if_lt (tgt := 36) hx hb dX11_four_4 (by decide) (fun h9 => absurd h9 (by decide)) (fun _ => ?_)
  refine lv_aload_n hx hb dX11_four_7 rfl (lv_at hl 1 rfl) ?_
  refine va_get (D := G) (ci := 11) (v := .ref (v 0)) (C := RX11) (T := TX11) (N := 44) hx hb hts j_m_four_4_11 hown hE.K hP 0 rfl rfl 0 (by decide) (hts (.fieldLink RX11 7 "GossamerGateModel" "tape" "[B") (List.mem_cons_of_mem _ (List.mem_append_left _ (List.mem_of_getElem? (i := 0) rfl)))) (fun _ h9 => h9) rfl dX11_four_8 ?_
  refine lv_aload_n hx hb dX11_four_11 rfl (lv_at hl 1 rfl) ?_
  refine va_get (D := G) (ci := 11) (v := .int 5) (C := RX11) (T := TX11) (N := 44) hx hb hts j_m_four_4_11 hown hE.K hP 0 rfl rfl 1 (by decide) (hts (.fieldLink RX11 92 "GossamerGateModel" "taped" "I") (List.mem_cons_of_mem _ (List.mem_append_left _ (List.mem_of_getElem? (i := 1) rfl)))) (fun _ h9 => h9) rfl dX11_four_12 ?_
  refine lv_iload_n hx hb dX11_four_15 rfl (lv_at hl 2 rfl) ?_
  refine lv_iload_n hx hb dX11_four_16 rfl (lv_at hl 0 rfl) ?_
  refine lv_ishr hx hb dX11_four_17 ?_
  obtain ⟨x_2, ex_2⟩ : ∃ y : Int32, y = ((a >>> (16 &&& 31))).toInt8.toInt32 := ⟨_, rfl⟩
  refine lv_i2b (v := x_2) hx hb dX11_four_18 ex_2.symm ?_
  refine va_bast hx hb hE.K hP hD hS 1 6 rfl rfl (gz_in (by decide)) dX11_four_19 (fun H locs hP hD hS => ?_)
  have hP : va_P G vwCl [(h0, .inr (11, [.ref (v 0), .int 5, .int 0, .ref (v 3), .ref (v 4), .ref (v 5), .ref (v 6), .ref (v 7), .int 0, .int 0, .int 0, .int 0, .int 0, .int 0, .int 0, .ref (v 15), .int 0, .ref (v 17), .int 0, .ref (v 19), .ref (v 20), .int (-1), .int 0, .ref (v 23), .int (-1), .int (-1), .int (-1), .int 0, .int (-1), .int 0, .ref (v 30), .int 0, .ref (v 32), .int 0, .int 0, .ref (v 35), .ref (v 36), .ref (v 37), .ref (v 38), .long 0, .ref (v 40), .ref (v 41), .ref (v 42), .ref (v 43)])), (v 0, .inl (k 6, 400, .inl (upd (upd q 4 (vp_nar .byte x_1)) 5 (vp_nar .byte x_2))))] H := hP
  have hD : va_D A [(h0, .inr (11, [.ref (v 0), .int 5, .int 0, .ref (v 3), .ref (v 4), .ref (v 5), .ref (v 6), .ref (v 7), .int 0, .int 0, .int 0, .int 0, .int 0, .int 0, .int 0, .ref (v 15), .int 0, .ref (v 17), .int 0, .ref (v 19), .ref (v 20), .int (-1), .int 0, .ref (v 23), .int (-1), .int (-1), .int (-1), .int 0, .int (-1), .int 0, .ref (v 30), .int 0, .ref (v 32), .int 0, .int 0, .ref (v 35), .ref (v 36), .ref (v 37), .ref (v 38), .long 0, .ref (v 40), .ref (v 41), .ref (v 42), .ref (v 43)])), (v 0, .inl (k 6, 400, .inl (upd (upd q 4 (vp_nar .byte x_1)) 5 (vp_nar .byte x_2))))] := hD
  refine lv_aload_n hx hb dX11_four_20 rfl (lv_at hl 1 rfl) ?_
  refine lv_dup hx hb dX11_four_21 rfl ?_
  refine va_get (D := G) (ci := 11) (v := .int 5) (C := RX11) (T := TX11) (N := 44) hx hb hts j_m_four_4_11 hown hE.K hP 0 rfl rfl 1 (by decide) (hts (.fieldLink RX11 92 "GossamerGateModel" "taped" "I") (List.mem_cons_of_mem _ (List.mem_append_left _ (List.mem_of_getElem? (i := 1) rfl)))) (fun _ h9 => h9) rfl dX11_four_22 ?_
  refine lv_iconst (v := 1) hx hb dX11_four_25 (by decide) ?_
  refine lv_iadd hx hb dX11_four_26 ?_
  refine gz_ni (v := 6) (by decide) ?_
  refine va_put (D := G) (ci := 11) (v := .int 6) (ty := .int) (C := RX11) (T := TX11) (N := 44) hx hb hts j_m_four_4_11 tyX11 tyX11_ok nmX11 hown hE.K hP hD hS 0 rfl rfl 1 (by decide) (hts (.fieldLink RX11 92 "GossamerGateModel" "taped" "I") (List.mem_cons_of_mem _ (List.mem_append_left _ (List.mem_of_getElem? (i := 1) rfl)))) (fun _ h9 => h9) rfl (by decide +kernel) rfl rfl (Nat.le_of_ble_eq_true rfl) dX11_four_27 (fun H locs hP hD hS => ?_)
  have hP : va_P G vwCl [(h0, .inr (11, [.ref (v 0), .int 6, .int 0, .ref (v 3), .ref (v 4), .ref (v 5), .ref (v 6), .ref (v 7), .int 0, .int 0, .int 0, .int 0, .int 0, .int 0, .int 0, .ref (v 15), .int 0, .ref (v 17), .int 0, .ref (v 19), .ref (v 20), .int (-1), .int 0, .ref (v 23), .int (-1), .int (-1), .int (-1), .int 0, .int (-1), .int 0, .ref (v 30), .int 0, .ref (v 32), .int 0, .int 0, .ref (v 35), .ref (v 36), .ref (v 37), .ref (v 38), .long 0, .ref (v 40), .ref (v 41), .ref (v 42), .ref (v 43)])), (v 0, .inl (k 6, 400, .inl (upd (upd q 4 (vp_nar .byte x_1)) 5 (vp_nar .byte x_2))))] H := hP
  have hD : va_D A [(h0, .inr (11, [.ref (v 0), .int 6, .int 0, .ref (v 3), .ref (v 4), .ref (v 5), .ref (v 6), .ref (v 7), .int 0, .int 0, .int 0, .int 0, .int 0, .int 0, .int 0, .ref (v 15), .int 0, .ref (v 17), .int 0, .ref (v 19), .ref (v 20), .int (-1), .int 0, .ref (v 23), .int (-1), .int (-1), .int (-1), .int 0, .int (-1), .int 0, .ref (v 30), .int 0, .ref (v 32), .int 0, .int 0, .ref (v 35), .ref (v 36), .ref (v 37), .ref (v 38), .long 0, .ref (v 40), .ref (v 41), .ref (v 42), .ref (v 43)])), (v 0, .inl (k 6, 400, .inl (upd (upd q 4 (vp_nar .byte x_1)) 5 (vp_nar .byte x_2))))] := hD
  refine lv_iinc (v := 8) (lv' := [(2, .int 8), (0, .ref h0), (1, .int a)]) hx hb dX11_four_30 hl (k := 0) rfl (by decide) (by decide) rfl (fun ls hl => ?_)
  refine lv_goto (tgt := 3) hx hb dX11_four_33 (by decide) ?_
  refine lv_iload_n hx hb dX11_four_3 rfl (lv_at hl 0 rfl) ?_
  refine lv_if_lt (tgt := 36) hx hb dX11_four_4 (by decide) (fun h9 => absurd h9 (by decide)) (fun _ => ?_)
  refine lv_aload_n hx hb dX11_four_7 rfl (lv_at hl 1 rfl) ?_
  refine va_get (D := G) (ci := 11) (v := .ref (v 0)) (C := RX11) (T := TX11) (N := 44) hx hb hts j_m_four_4_11 hown hE.K hP 0 rfl rfl 0 (by decide) (hts (.fieldLink RX11 7 "GossamerGateModel" "tape" "[B") (List.mem_cons_of_mem _ (List.mem_append_left _ (List.mem_of_getElem? (i := 0) rfl)))) (fun _ h9 => h9) rfl dX11_four_8 ?_
  refine lv_aload_n hx hb dX11_four_11 rfl (lv_at hl 1 rfl) ?_
  refine va_get (D := G) (ci := 11) (v := .int 6) (C := RX11) (T := TX11) (N := 44) hx hb hts j_m_four_4_11 hown hE.K hP 0 rfl rfl 1 (by decide) (hts (.fieldLink RX11 92 "GossamerGateModel" "taped" "I") (List.mem_cons_of_mem _ (List.mem_append_left _ (List.mem_of_getElem? (i := 1) rfl)))) (fun _ h9 => h9) rfl dX11_four_12 ?_
  refine lv_iload_n hx hb dX11_four_15 rfl (lv_at hl 2 rfl) ?_
  refine lv_iload_n hx hb dX11_four_16 rfl (lv_at hl 0 rfl) ?_
  refine lv_ishr hx hb dX11_four_17 ?_
  obtain ⟨x_3, ex_3⟩ : ∃ y : Int32, y = ((a >>> (8 &&& 31))).toInt8.toInt32 := ⟨_, rfl⟩
  refine lv_i2b (v := x_3) hx hb dX11_four_18 ex_3.symm ?_
  refine va_bast hx hb hE.K hP hD hS 1 6 rfl rfl (gz_in (by decide)) dX11_four_19 (fun H locs hP hD hS => ?_)
  have hP : va_P G vwCl [(h0, .inr (11, [.ref (v 0), .int 6, .int 0, .ref (v 3), .ref (v 4), .ref (v 5), .ref (v 6), .ref (v 7), .int 0, .int 0, .int 0, .int 0, .int 0, .int 0, .int 0, .ref (v 15), .int 0, .ref (v 17), .int 0, .ref (v 19), .ref (v 20), .int (-1), .int 0, .ref (v 23), .int (-1), .int (-1), .int (-1), .int 0, .int (-1), .int 0, .ref (v 30), .int 0, .ref (v 32), .int 0, .int 0, .ref (v 35), .ref (v 36), .ref (v 37), .ref (v 38), .long 0, .ref (v 40), .ref (v 41), .ref (v 42), .ref (v 43)])), (v 0, .inl (k 6, 400, .inl (upd (upd (upd q 4 (vp_nar .byte x_1)) 5 (vp_nar .byte x_2)) 6 (vp_nar .byte x_3))))] H := hP
  have hD : va_D A [(h0, .inr (11, [.ref (v 0), .int 6, .int 0, .ref (v 3), .ref (v 4), .ref (v 5), .ref (v 6), .ref (v 7), .int 0, .int 0, .int 0, .int 0, .int 0, .int 0, .int 0, .ref (v 15), .int 0, .ref (v 17), .int 0, .ref (v 19), .ref (v 20), .int (-1), .int 0, .ref (v 23), .int (-1), .int (-1), .int (-1), .int 0, .int (-1), .int 0, .ref (v 30), .int 0, .ref (v 32), .int 0, .int 0, .ref (v 35), .ref (v 36), .ref (v 37), .ref (v 38), .long 0, .ref (v 40), .ref (v 41), .ref (v 42), .ref (v 43)])), (v 0, .inl (k 6, 400, .inl (upd (upd (upd q 4 (vp_nar .byte x_1)) 5 (vp_nar .byte x_2)) 6 (vp_nar .byte x_3))))] := hD
  refine lv_aload_n hx hb dX11_four_20 rfl (lv_at hl 1 rfl) ?_
  refine lv_dup hx hb dX11_four_21 rfl ?_
  refine va_get (D := G) (ci := 11) (v := .int 6) (C := RX11) (T := TX11) (N := 44) hx hb hts j_m_four_4_11 hown hE.K hP 0 rfl rfl 1 (by decide) (hts (.fieldLink RX11 92 "GossamerGateModel" "taped" "I") (List.mem_cons_of_mem _ (List.mem_append_left _ (List.mem_of_getElem? (i := 1) rfl)))) (fun _ h9 => h9) rfl dX11_four_22 ?_
  refine lv_iconst (v := 1) hx hb dX11_four_25 (by decide) ?_
  refine lv_iadd hx hb dX11_four_26 ?_
  refine gz_ni (v := 7) (by decide) ?_
  refine va_put (D := G) (ci := 11) (v := .int 7) (ty := .int) (C := RX11) (T := TX11) (N := 44) hx hb hts j_m_four_4_11 tyX11 tyX11_ok nmX11 hown hE.K hP hD hS 0 rfl rfl 1 (by decide) (hts (.fieldLink RX11 92 "GossamerGateModel" "taped" "I") (List.mem_cons_of_mem _ (List.mem_append_left _ (List.mem_of_getElem? (i := 1) rfl)))) (fun _ h9 => h9) rfl (by decide +kernel) rfl rfl (Nat.le_of_ble_eq_true rfl) dX11_four_27 (fun H locs hP hD hS => ?_)
  have hP : va_P G vwCl [(h0, .inr (11, [.ref (v 0), .int 7, .int 0, .ref (v 3), .ref (v 4), .ref (v 5), .ref (v 6), .ref (v 7), .int 0, .int 0, .int 0, .int 0, .int 0, .int 0, .int 0, .ref (v 15), .int 0, .ref (v 17), .int 0, .ref (v 19), .ref (v 20), .int (-1), .int 0, .ref (v 23), .int (-1), .int (-1), .int (-1), .int 0, .int (-1), .int 0, .ref (v 30), .int 0, .ref (v 32), .int 0, .int 0, .ref (v 35), .ref (v 36), .ref (v 37), .ref (v 38), .long 0, .ref (v 40), .ref (v 41), .ref (v 42), .ref (v 43)])), (v 0, .inl (k 6, 400, .inl (upd (upd (upd q 4 (vp_nar .byte x_1)) 5 (vp_nar .byte x_2)) 6 (vp_nar .byte x_3))))] H := hP
  have hD : va_D A [(h0, .inr (11, [.ref (v 0), .int 7, .int 0, .ref (v 3), .ref (v 4), .ref (v 5), .ref (v 6), .ref (v 7), .int 0, .int 0, .int 0, .int 0, .int 0, .int 0, .int 0, .ref (v 15), .int 0, .ref (v 17), .int 0, .ref (v 19), .ref (v 20), .int (-1), .int 0, .ref (v 23), .int (-1), .int (-1), .int (-1), .int 0, .int (-1), .int 0, .ref (v 30), .int 0, .ref (v 32), .int 0, .int 0, .ref (v 35), .ref (v 36), .ref (v 37), .ref (v 38), .long 0, .ref (v 40), .ref (v 41), .ref (v 42), .ref (v 43)])), (v 0, .inl (k 6, 400, .inl (upd (upd (upd q 4 (vp_nar .byte x_1)) 5 (vp_nar .byte x_2)) 6 (vp_nar .byte x_3))))] := hD
  refine lv_iinc (v := 0) (lv' := [(2, .int 0), (0, .ref h0), (1, .int a)]) hx hb dX11_four_30 hl (k := 0) rfl (by decide) (by decide) rfl (fun ls hl => ?_)
  refine lv_goto (tgt := 3) hx hb dX11_four_33 (by decide) ?_
  refine lv_iload_n hx hb dX11_four_3 rfl (lv_at hl 0 rfl) ?_
  refine lv_if_lt (tgt := 36) hx hb dX11_four_4 (by decide) (fun h9 => absurd h9 (by decide)) (fun _ => ?_)
  refine lv_aload_n hx hb dX11_four_7 rfl (lv_at hl 1 rfl) ?_
  refine va_get (D := G) (ci := 11) (v := .ref (v 0)) (C := RX11) (T := TX11) (N := 44) hx hb hts j_m_four_4_11 hown hE.K hP 0 rfl rfl 0 (by decide) (hts (.fieldLink RX11 7 "GossamerGateModel" "tape" "[B") (List.mem_cons_of_mem _ (List.mem_append_left _ (List.mem_of_getElem? (i := 0) rfl)))) (fun _ h9 => h9) rfl dX11_four_8 ?_
  refine lv_aload_n hx hb dX11_four_11 rfl (lv_at hl 1 rfl) ?_
  refine va_get (D := G) (ci := 11) (v := .int 7) (C := RX11) (T := TX11) (N := 44) hx hb hts j_m_four_4_11 hown hE.K hP 0 rfl rfl 1 (by decide) (hts (.fieldLink RX11 92 "GossamerGateModel" "taped" "I") (List.mem_cons_of_mem _ (List.mem_append_left _ (List.mem_of_getElem? (i := 1) rfl)))) (fun _ h9 => h9) rfl dX11_four_12 ?_
  refine lv_iload_n hx hb dX11_four_15 rfl (lv_at hl 2 rfl) ?_
  refine lv_iload_n hx hb dX11_four_16 rfl (lv_at hl 0 rfl) ?_
  refine lv_ishr hx hb dX11_four_17 ?_
  obtain ⟨x_4, ex_4⟩ : ∃ y : Int32, y = ((a >>> (0 &&& 31))).toInt8.toInt32 := ⟨_, rfl⟩
  refine lv_i2b (v := x_4) hx hb dX11_four_18 ex_4.symm ?_
  refine va_bast hx hb hE.K hP hD hS 1 6 rfl rfl (gz_in (by decide)) dX11_four_19 (fun H locs hP hD hS => ?_)
  have hP : va_P G vwCl [(h0, .inr (11, [.ref (v 0), .int 7, .int 0, .ref (v 3), .ref (v 4), .ref (v 5), .ref (v 6), .ref (v 7), .int 0, .int 0, .int 0, .int 0, .int 0, .int 0, .int 0, .ref (v 15), .int 0, .ref (v 17), .int 0, .ref (v 19), .ref (v 20), .int (-1), .int 0, .ref (v 23), .int (-1), .int (-1), .int (-1), .int 0, .int (-1), .int 0, .ref (v 30), .int 0, .ref (v 32), .int 0, .int 0, .ref (v 35), .ref (v 36), .ref (v 37), .ref (v 38), .long 0, .ref (v 40), .ref (v 41), .ref (v 42), .ref (v 43)])), (v 0, .inl (k 6, 400, .inl (upd (upd (upd (upd q 4 (vp_nar .byte x_1)) 5 (vp_nar .byte x_2)) 6 (vp_nar .byte x_3)) 7 (vp_nar .byte x_4))))] H := hP
  have hD : va_D A [(h0, .inr (11, [.ref (v 0), .int 7, .int 0, .ref (v 3), .ref (v 4), .ref (v 5), .ref (v 6), .ref (v 7), .int 0, .int 0, .int 0, .int 0, .int 0, .int 0, .int 0, .ref (v 15), .int 0, .ref (v 17), .int 0, .ref (v 19), .ref (v 20), .int (-1), .int 0, .ref (v 23), .int (-1), .int (-1), .int (-1), .int 0, .int (-1), .int 0, .ref (v 30), .int 0, .ref (v 32), .int 0, .int 0, .ref (v 35), .ref (v 36), .ref (v 37), .ref (v 38), .long 0, .ref (v 40), .ref (v 41), .ref (v 42), .ref (v 43)])), (v 0, .inl (k 6, 400, .inl (upd (upd (upd (upd q 4 (vp_nar .byte x_1)) 5 (vp_nar .byte x_2)) 6 (vp_nar .byte x_3)) 7 (vp_nar .byte x_4))))] := hD
  refine lv_aload_n hx hb dX11_four_20 rfl (lv_at hl 1 rfl) ?_
  refine lv_dup hx hb dX11_four_21 rfl ?_
  refine va_get (D := G) (ci := 11) (v := .int 7) (C := RX11) (T := TX11) (N := 44) hx hb hts j_m_four_4_11 hown hE.K hP 0 rfl rfl 1 (by decide) (hts (.fieldLink RX11 92 "GossamerGateModel" "taped" "I") (List.mem_cons_of_mem _ (List.mem_append_left _ (List.mem_of_getElem? (i := 1) rfl)))) (fun _ h9 => h9) rfl dX11_four_22 ?_
  refine lv_iconst (v := 1) hx hb dX11_four_25 (by decide) ?_
  refine lv_iadd hx hb dX11_four_26 ?_
  refine gz_ni (v := 8) (by decide) ?_
  refine va_put (D := G) (ci := 11) (v := .int 8) (ty := .int) (C := RX11) (T := TX11) (N := 44) hx hb hts j_m_four_4_11 tyX11 tyX11_ok nmX11 hown hE.K hP hD hS 0 rfl rfl 1 (by decide) (hts (.fieldLink RX11 92 "GossamerGateModel" "taped" "I") (List.mem_cons_of_mem _ (List.mem_append_left _ (List.mem_of_getElem? (i := 1) rfl)))) (fun _ h9 => h9) rfl (by decide +kernel) rfl rfl (Nat.le_of_ble_eq_true rfl) dX11_four_27 (fun H locs hP hD hS => ?_)
  have hP : va_P G vwCl [(h0, .inr (11, [.ref (v 0), .int 8, .int 0, .ref (v 3), .ref (v 4), .ref (v 5), .ref (v 6), .ref (v 7), .int 0, .int 0, .int 0, .int 0, .int 0, .int 0, .int 0, .ref (v 15), .int 0, .ref (v 17), .int 0, .ref (v 19), .ref (v 20), .int (-1), .int 0, .ref (v 23), .int (-1), .int (-1), .int (-1), .int 0, .int (-1), .int 0, .ref (v 30), .int 0, .ref (v 32), .int 0, .int 0, .ref (v 35), .ref (v 36), .ref (v 37), .ref (v 38), .long 0, .ref (v 40), .ref (v 41), .ref (v 42), .ref (v 43)])), (v 0, .inl (k 6, 400, .inl (upd (upd (upd (upd q 4 (vp_nar .byte x_1)) 5 (vp_nar .byte x_2)) 6 (vp_nar .byte x_3)) 7 (vp_nar .byte x_4))))] H := hP
  have hD : va_D A [(h0, .inr (11, [.ref (v 0), .int 8, .int 0, .ref (v 3), .ref (v 4), .ref (v 5), .ref (v 6), .ref (v 7), .int 0, .int 0, .int 0, .int 0, .int 0, .int 0, .int 0, .ref (v 15), .int 0, .ref (v 17), .int 0, .ref (v 19), .ref (v 20), .int (-1), .int 0, .ref (v 23), .int (-1), .int (-1), .int (-1), .int 0, .int (-1), .int 0, .ref (v 30), .int 0, .ref (v 32), .int 0, .int 0, .ref (v 35), .ref (v 36), .ref (v 37), .ref (v 38), .long 0, .ref (v 40), .ref (v 41), .ref (v 42), .ref (v 43)])), (v 0, .inl (k 6, 400, .inl (upd (upd (upd (upd q 4 (vp_nar .byte x_1)) 5 (vp_nar .byte x_2)) 6 (vp_nar .byte x_3)) 7 (vp_nar .byte x_4))))] := hD
  refine lv_iinc (v := (-8)) (lv' := [(2, .int (-8)), (0, .ref h0), (1, .int a)]) hx hb dX11_four_30 hl (k := 0) rfl (by decide) (by decide) rfl (fun ls hl => ?_)
  refine lv_goto (tgt := 3) hx hb dX11_four_33 (by decide) ?_
  refine lv_iload_n hx hb dX11_four_3 rfl (lv_at hl 0 rfl) ?_
  refine lv_if_lt (tgt := 36) hx hb dX11_four_4 (by decide) (fun _ => ?_) (fun h9 => absurd h9 (by decide))
  have hP9 := hP.sub (ws' := [(h0, .inr (11, [.ref (v 0), .int 8, .int 0, .ref (v 3), .ref (v 4), .ref (v 5), .ref (v 6), .ref (v 7), .int 0, .int 0, .int 0, .int 0, .int 0, .int 0, .int 0, .ref (v 15), .int 0, .ref (v 17), .int 0, .ref (v 19), .ref (v 20), .int (-1), .int 0, .ref (v 23), .int (-1), .int (-1), .int (-1), .int 0, .int (-1), .int 0, .ref (v 30), .int 0, .ref (v 32), .int 0, .int 0, .ref (v 35), .ref (v 36), .ref (v 37), .ref (v 38), .long 0, .ref (v 40), .ref (v 41), .ref (v 42), .ref (v 43)])), (v 0, .inl (k 6, 400, .inl (upd (upd (upd (upd q 4 (vp_nar .byte x_1)) 5 (vp_nar .byte x_2)) 6 (vp_nar .byte x_3)) 7 (vp_nar .byte x_4))))]) [0, 1] rfl
  have hD9 := hD.sub (ws' := [(h0, .inr (11, [.ref (v 0), .int 8, .int 0, .ref (v 3), .ref (v 4), .ref (v 5), .ref (v 6), .ref (v 7), .int 0, .int 0, .int 0, .int 0, .int 0, .int 0, .int 0, .ref (v 15), .int 0, .ref (v 17), .int 0, .ref (v 19), .ref (v 20), .int (-1), .int 0, .ref (v 23), .int (-1), .int (-1), .int (-1), .int 0, .int (-1), .int 0, .ref (v 30), .int 0, .ref (v 32), .int 0, .int 0, .ref (v 35), .ref (v 36), .ref (v 37), .ref (v 38), .long 0, .ref (v 40), .ref (v 41), .ref (v 42), .ref (v 43)])), (v 0, .inl (k 6, 400, .inl (upd (upd (upd (upd q 4 (vp_nar .byte x_1)) 5 (vp_nar .byte x_2)) 6 (vp_nar .byte x_3)) 7 (vp_nar .byte x_4))))]) [0, 1] (by decide) rfl
  exact W.vret hx hb hr (fun t ht hW => ⟨⟨upd (upd (upd (upd q 4 (vp_nar .byte x_1)) 5 (vp_nar .byte x_2)) 6 (vp_nar .byte x_3)) 7 (vp_nar .byte x_4), rfl, trivial, by rw [ht]; exact hP9, hD9⟩, hS.F ht⟩) hS.2.2 dX11_four_36
set_option maxHeartbeats 4000000 in
set_option maxRecDepth 100000 in
theorem m_four_8 (l : Launch) (G : va_G) (k : Nat → ClassId) (sa : Nat → Nat) (sz : Nat) (h0 : Nat) (v : Nat → Nat) (a : Int32) (q : Nat → Int32) : Met l yX11_four vs_m_four_8 ({ frames := 0, cells := 0, slots := 0, locals := 0 } : Room) (gP G k sa [.ref h0, .int a] [(h0, .inr (11, [.ref (v 0), .int 8, .int 0, .ref (v 3), .ref (v 4), .ref (v 5), .ref (v 6), .ref (v 7), .int 0, .int 0, .int 0, .int 0, .int 0, .int 0, .int 0, .ref (v 15), .int 0, .ref (v 17), .int 0, .ref (v 19), .ref (v 20), .int (-1), .int 0, .ref (v 23), .int (-1), .int (-1), .int (-1), .int 0, .int (-1), .int 0, .ref (v 30), .int 0, .ref (v 32), .int 0, .int 0, .ref (v 35), .ref (v 36), .ref (v 37), .ref (v 38), .long 0, .ref (v 40), .ref (v 41), .ref (v 42), .ref (v 43)])), (v 0, .inl (k 6, 400, .inl q))] sz) (va_Qv (fun _ : Nat → Int32 => True) (gO G (va_A ([(h0, .inr (11, [.ref (v 0), .int 8, .int 0, .ref (v 3), .ref (v 4), .ref (v 5), .ref (v 6), .ref (v 7), .int 0, .int 0, .int 0, .int 0, .int 0, .int 0, .int 0, .ref (v 15), .int 0, .ref (v 17), .int 0, .ref (v 19), .ref (v 20), .int (-1), .int 0, .ref (v 23), .int (-1), .int (-1), .int (-1), .int 0, .int (-1), .int 0, .ref (v 30), .int 0, .ref (v 32), .int 0, .int 0, .ref (v 35), .ref (v 36), .ref (v 37), .ref (v 38), .long 0, .ref (v 40), .ref (v 41), .ref (v 42), .ref (v 43)])), (v 0, .inl (k 6, 400, .inl q))]) sz) (fun u => [(h0, .inr (11, [.ref (v 0), .int 12, .int 0, .ref (v 3), .ref (v 4), .ref (v 5), .ref (v 6), .ref (v 7), .int 0, .int 0, .int 0, .int 0, .int 0, .int 0, .int 0, .ref (v 15), .int 0, .ref (v 17), .int 0, .ref (v 19), .ref (v 20), .int (-1), .int 0, .ref (v 23), .int (-1), .int (-1), .int (-1), .int 0, .int (-1), .int 0, .ref (v 30), .int 0, .ref (v 32), .int 0, .int 0, .ref (v 35), .ref (v 36), .ref (v 37), .ref (v 38), .long 0, .ref (v 40), .ref (v 41), .ref (v 42), .ref (v 43)])), (v 0, .inl (k 6, 400, .inl u))])) (va_A ([(h0, .inr (11, [.ref (v 0), .int 8, .int 0, .ref (v 3), .ref (v 4), .ref (v 5), .ref (v 6), .ref (v 7), .int 0, .int 0, .int 0, .int 0, .int 0, .int 0, .int 0, .ref (v 15), .int 0, .ref (v 17), .int 0, .ref (v 19), .ref (v 20), .int (-1), .int 0, .ref (v 23), .int (-1), .int (-1), .int (-1), .int 0, .int (-1), .int 0, .ref (v 30), .int 0, .ref (v 32), .int 0, .int 0, .ref (v 35), .ref (v 36), .ref (v 37), .ref (v 38), .long 0, .ref (v 40), .ref (v 41), .ref (v 42), .ref (v 43)])), (v 0, .inl (k 6, 400, .inl q))]) sz)) 0 0 (va_A ([(h0, .inr (11, [.ref (v 0), .int 8, .int 0, .ref (v 3), .ref (v 4), .ref (v 5), .ref (v 6), .ref (v 7), .int 0, .int 0, .int 0, .int 0, .int 0, .int 0, .int 0, .ref (v 15), .int 0, .ref (v 17), .int 0, .ref (v 19), .ref (v 20), .int (-1), .int 0, .ref (v 23), .int (-1), .int (-1), .int (-1), .int 0, .int (-1), .int 0, .ref (v 30), .int 0, .ref (v 32), .int 0, .int 0, .ref (v 35), .ref (v 36), .ref (v 37), .ref (v 38), .long 0, .ref (v 40), .ref (v 41), .ref (v 42), .ref (v 43)])), (v 0, .inl (k 6, 400, .inl q))]) sz) := by
  refine gz_met (cc := cX11_four) (maxL := 3) (ret := none) (by decide) rfl (Nat.le_of_ble_eq_true rfl) ?_
  intro p_ e_ s_ m below_ meth_ c_ ls hx hb hr hml hts hown hlocks hin hP hE hD hA hS
  generalize hAe : va_A ([(h0, .inr (11, [.ref (v 0), .int 8, .int 0, .ref (v 3), .ref (v 4), .ref (v 5), .ref (v 6), .ref (v 7), .int 0, .int 0, .int 0, .int 0, .int 0, .int 0, .int 0, .ref (v 15), .int 0, .ref (v 17), .int 0, .ref (v 19), .ref (v 20), .int (-1), .int 0, .ref (v 23), .int (-1), .int (-1), .int (-1), .int 0, .int (-1), .int 0, .ref (v 30), .int 0, .ref (v 32), .int 0, .int 0, .ref (v 35), .ref (v 36), .ref (v 37), .ref (v 38), .long 0, .ref (v 40), .ref (v 41), .ref (v 42), .ref (v 43)])), (v 0, .inl (k 6, 400, .inl q))]) sz = A at hD hA hS ⊢
  intro hl
  have hl : lv_has ls 3 [(0, .ref h0), (1, .int a)] := hl
  refine lv_bipush (v := 24) hx hb dX11_four_0 (by decide) ?_
  refine lv_istore_n (lv' := [(2, .int 24), (0, .ref h0), (1, .int a)]) hx hb dX11_four_2 rfl hl (by decide) rfl (fun ls hl => ?_)
  refine lv_iload_n hx hb dX11_four_3 rfl (lv_at hl 0 rfl) ?_
  refine lv_if_lt (tgt := 36) hx hb dX11_four_4 (by decide) (fun h9 => absurd h9 (by decide)) (fun _ => ?_)
  refine lv_aload_n hx hb dX11_four_7 rfl (lv_at hl 1 rfl) ?_
  refine va_get (D := G) (ci := 11) (v := .ref (v 0)) (C := RX11) (T := TX11) (N := 44) hx hb hts j_m_four_8_11 hown hE.K hP 0 rfl rfl 0 (by decide) (hts (.fieldLink RX11 7 "GossamerGateModel" "tape" "[B") (List.mem_cons_of_mem _ (List.mem_append_left _ (List.mem_of_getElem? (i := 0) rfl)))) (fun _ h9 => h9) rfl dX11_four_8 ?_
  refine lv_aload_n hx hb dX11_four_11 rfl (lv_at hl 1 rfl) ?_
  refine va_get (D := G) (ci := 11) (v := .int 8) (C := RX11) (T := TX11) (N := 44) hx hb hts j_m_four_8_11 hown hE.K hP 0 rfl rfl 1 (by decide) (hts (.fieldLink RX11 92 "GossamerGateModel" "taped" "I") (List.mem_cons_of_mem _ (List.mem_append_left _ (List.mem_of_getElem? (i := 1) rfl)))) (fun _ h9 => h9) rfl dX11_four_12 ?_
  refine lv_iload_n hx hb dX11_four_15 rfl (lv_at hl 2 rfl) ?_
  refine lv_iload_n hx hb dX11_four_16 rfl (lv_at hl 0 rfl) ?_
  refine lv_ishr hx hb dX11_four_17 ?_
  obtain ⟨x_1, ex_1⟩ : ∃ y : Int32, y = ((a >>> (24 &&& 31))).toInt8.toInt32 := ⟨_, rfl⟩
  refine lv_i2b (v := x_1) hx hb dX11_four_18 ex_1.symm ?_
  refine va_bast hx hb hE.K hP hD hS 1 6 rfl rfl (gz_in (by decide)) dX11_four_19 (fun H locs hP hD hS => ?_)
  have hP : va_P G vwCl [(h0, .inr (11, [.ref (v 0), .int 8, .int 0, .ref (v 3), .ref (v 4), .ref (v 5), .ref (v 6), .ref (v 7), .int 0, .int 0, .int 0, .int 0, .int 0, .int 0, .int 0, .ref (v 15), .int 0, .ref (v 17), .int 0, .ref (v 19), .ref (v 20), .int (-1), .int 0, .ref (v 23), .int (-1), .int (-1), .int (-1), .int 0, .int (-1), .int 0, .ref (v 30), .int 0, .ref (v 32), .int 0, .int 0, .ref (v 35), .ref (v 36), .ref (v 37), .ref (v 38), .long 0, .ref (v 40), .ref (v 41), .ref (v 42), .ref (v 43)])), (v 0, .inl (k 6, 400, .inl (upd q 8 (vp_nar .byte x_1))))] H := hP
  have hD : va_D A [(h0, .inr (11, [.ref (v 0), .int 8, .int 0, .ref (v 3), .ref (v 4), .ref (v 5), .ref (v 6), .ref (v 7), .int 0, .int 0, .int 0, .int 0, .int 0, .int 0, .int 0, .ref (v 15), .int 0, .ref (v 17), .int 0, .ref (v 19), .ref (v 20), .int (-1), .int 0, .ref (v 23), .int (-1), .int (-1), .int (-1), .int 0, .int (-1), .int 0, .ref (v 30), .int 0, .ref (v 32), .int 0, .int 0, .ref (v 35), .ref (v 36), .ref (v 37), .ref (v 38), .long 0, .ref (v 40), .ref (v 41), .ref (v 42), .ref (v 43)])), (v 0, .inl (k 6, 400, .inl (upd q 8 (vp_nar .byte x_1))))] := hD
  refine lv_aload_n hx hb dX11_four_20 rfl (lv_at hl 1 rfl) ?_
  refine lv_dup hx hb dX11_four_21 rfl ?_
  refine va_get (D := G) (ci := 11) (v := .int 8) (C := RX11) (T := TX11) (N := 44) hx hb hts j_m_four_8_11 hown hE.K hP 0 rfl rfl 1 (by decide) (hts (.fieldLink RX11 92 "GossamerGateModel" "taped" "I") (List.mem_cons_of_mem _ (List.mem_append_left _ (List.mem_of_getElem? (i := 1) rfl)))) (fun _ h9 => h9) rfl dX11_four_22 ?_
  refine lv_iconst (v := 1) hx hb dX11_four_25 (by decide) ?_
  refine lv_iadd hx hb dX11_four_26 ?_
  refine gz_ni (v := 9) (by decide) ?_
  refine va_put (D := G) (ci := 11) (v := .int 9) (ty := .int) (C := RX11) (T := TX11) (N := 44) hx hb hts j_m_four_8_11 tyX11 tyX11_ok nmX11 hown hE.K hP hD hS 0 rfl rfl 1 (by decide) (hts (.fieldLink RX11 92 "GossamerGateModel" "taped" "I") (List.mem_cons_of_mem _ (List.mem_append_left _ (List.mem_of_getElem? (i := 1) rfl)))) (fun _ h9 => h9) rfl (by decide +kernel) rfl rfl (Nat.le_of_ble_eq_true rfl) dX11_four_27 (fun H locs hP hD hS => ?_)
  have hP : va_P G vwCl [(h0, .inr (11, [.ref (v 0), .int 9, .int 0, .ref (v 3), .ref (v 4), .ref (v 5), .ref (v 6), .ref (v 7), .int 0, .int 0, .int 0, .int 0, .int 0, .int 0, .int 0, .ref (v 15), .int 0, .ref (v 17), .int 0, .ref (v 19), .ref (v 20), .int (-1), .int 0, .ref (v 23), .int (-1), .int (-1), .int (-1), .int 0, .int (-1), .int 0, .ref (v 30), .int 0, .ref (v 32), .int 0, .int 0, .ref (v 35), .ref (v 36), .ref (v 37), .ref (v 38), .long 0, .ref (v 40), .ref (v 41), .ref (v 42), .ref (v 43)])), (v 0, .inl (k 6, 400, .inl (upd q 8 (vp_nar .byte x_1))))] H := hP
  have hD : va_D A [(h0, .inr (11, [.ref (v 0), .int 9, .int 0, .ref (v 3), .ref (v 4), .ref (v 5), .ref (v 6), .ref (v 7), .int 0, .int 0, .int 0, .int 0, .int 0, .int 0, .int 0, .ref (v 15), .int 0, .ref (v 17), .int 0, .ref (v 19), .ref (v 20), .int (-1), .int 0, .ref (v 23), .int (-1), .int (-1), .int (-1), .int 0, .int (-1), .int 0, .ref (v 30), .int 0, .ref (v 32), .int 0, .int 0, .ref (v 35), .ref (v 36), .ref (v 37), .ref (v 38), .long 0, .ref (v 40), .ref (v 41), .ref (v 42), .ref (v 43)])), (v 0, .inl (k 6, 400, .inl (upd q 8 (vp_nar .byte x_1))))] := hD
  refine lv_iinc (v := 16) (lv' := [(2, .int 16), (0, .ref h0), (1, .int a)]) hx hb dX11_four_30 hl (k := 0) rfl (by decide) (by decide) rfl (fun ls hl => ?_)
  refine lv_goto (tgt := 3) hx hb dX11_four_33 (by decide) ?_
  refine lv_iload_n hx hb dX11_four_3 rfl (lv_at hl 0 rfl) ?_
  refine lv_if_lt (tgt := 36) hx hb dX11_four_4 (by decide) (fun h9 => absurd h9 (by decide)) (fun _ => ?_)
  refine lv_aload_n hx hb dX11_four_7 rfl (lv_at hl 1 rfl) ?_
  refine va_get (D := G) (ci := 11) (v := .ref (v 0)) (C := RX11) (T := TX11) (N := 44) hx hb hts j_m_four_8_11 hown hE.K hP 0 rfl rfl 0 (by decide) (hts (.fieldLink RX11 7 "GossamerGateModel" "tape" "[B") (List.mem_cons_of_mem _ (List.mem_append_left _ (List.mem_of_getElem? (i := 0) rfl)))) (fun _ h9 => h9) rfl dX11_four_8 ?_
  refine lv_aload_n hx hb dX11_four_11 rfl (lv_at hl 1 rfl) ?_
  refine va_get (D := G) (ci := 11) (v := .int 9) (C := RX11) (T := TX11) (N := 44) hx hb hts j_m_four_8_11 hown hE.K hP 0 rfl rfl 1 (by decide) (hts (.fieldLink RX11 92 "GossamerGateModel" "taped" "I") (List.mem_cons_of_mem _ (List.mem_append_left _ (List.mem_of_getElem? (i := 1) rfl)))) (fun _ h9 => h9) rfl dX11_four_12 ?_
  refine lv_iload_n hx hb dX11_four_15 rfl (lv_at hl 2 rfl) ?_
  refine lv_iload_n hx hb dX11_four_16 rfl (lv_at hl 0 rfl) ?_
  refine lv_ishr hx hb dX11_four_17 ?_
  obtain ⟨x_2, ex_2⟩ : ∃ y : Int32, y = ((a >>> (16 &&& 31))).toInt8.toInt32 := ⟨_, rfl⟩
  refine lv_i2b (v := x_2) hx hb dX11_four_18 ex_2.symm ?_
  refine va_bast hx hb hE.K hP hD hS 1 6 rfl rfl (gz_in (by decide)) dX11_four_19 (fun H locs hP hD hS => ?_)
  have hP : va_P G vwCl [(h0, .inr (11, [.ref (v 0), .int 9, .int 0, .ref (v 3), .ref (v 4), .ref (v 5), .ref (v 6), .ref (v 7), .int 0, .int 0, .int 0, .int 0, .int 0, .int 0, .int 0, .ref (v 15), .int 0, .ref (v 17), .int 0, .ref (v 19), .ref (v 20), .int (-1), .int 0, .ref (v 23), .int (-1), .int (-1), .int (-1), .int 0, .int (-1), .int 0, .ref (v 30), .int 0, .ref (v 32), .int 0, .int 0, .ref (v 35), .ref (v 36), .ref (v 37), .ref (v 38), .long 0, .ref (v 40), .ref (v 41), .ref (v 42), .ref (v 43)])), (v 0, .inl (k 6, 400, .inl (upd (upd q 8 (vp_nar .byte x_1)) 9 (vp_nar .byte x_2))))] H := hP
  have hD : va_D A [(h0, .inr (11, [.ref (v 0), .int 9, .int 0, .ref (v 3), .ref (v 4), .ref (v 5), .ref (v 6), .ref (v 7), .int 0, .int 0, .int 0, .int 0, .int 0, .int 0, .int 0, .ref (v 15), .int 0, .ref (v 17), .int 0, .ref (v 19), .ref (v 20), .int (-1), .int 0, .ref (v 23), .int (-1), .int (-1), .int (-1), .int 0, .int (-1), .int 0, .ref (v 30), .int 0, .ref (v 32), .int 0, .int 0, .ref (v 35), .ref (v 36), .ref (v 37), .ref (v 38), .long 0, .ref (v 40), .ref (v 41), .ref (v 42), .ref (v 43)])), (v 0, .inl (k 6, 400, .inl (upd (upd q 8 (vp_nar .byte x_1)) 9 (vp_nar .byte x_2))))] := hD
  refine lv_aload_n hx hb dX11_four_20 rfl (lv_at hl 1 rfl) ?_
  refine lv_dup hx hb dX11_four_21 rfl ?_
  refine va_get (D := G) (ci := 11) (v := .int 9) (C := RX11) (T := TX11) (N := 44) hx hb hts j_m_four_8_11 hown hE.K hP 0 rfl rfl 1 (by decide) (hts (.fieldLink RX11 92 "GossamerGateModel" "taped" "I") (List.mem_cons_of_mem _ (List.mem_append_left _ (List.mem_of_getElem? (i := 1) rfl)))) (fun _ h9 => h9) rfl dX11_four_22 ?_
  refine lv_iconst (v := 1) hx hb dX11_four_25 (by decide) ?_
  refine lv_iadd hx hb dX11_four_26 ?_
  refine gz_ni (v := 10) (by decide) ?_
  refine va_put (D := G) (ci := 11) (v := .int 10) (ty := .int) (C := RX11) (T := TX11) (N := 44) hx hb hts j_m_four_8_11 tyX11 tyX11_ok nmX11 hown hE.K hP hD hS 0 rfl rfl 1 (by decide) (hts (.fieldLink RX11 92 "GossamerGateModel" "taped" "I") (List.mem_cons_of_mem _ (List.mem_append_left _ (List.mem_of_getElem? (i := 1) rfl)))) (fun _ h9 => h9) rfl (by decide +kernel) rfl rfl (Nat.le_of_ble_eq_true rfl) dX11_four_27 (fun H locs hP hD hS => ?_)
  have hP : va_P G vwCl [(h0, .inr (11, [.ref (v 0), .int 10, .int 0, .ref (v 3), .ref (v 4), .ref (v 5), .ref (v 6), .ref (v 7), .int 0, .int 0, .int 0, .int 0, .int 0, .int 0, .int 0, .ref (v 15), .int 0, .ref (v 17), .int 0, .ref (v 19), .ref (v 20), .int (-1), .int 0, .ref (v 23), .int (-1), .int (-1), .int (-1), .int 0, .int (-1), .int 0, .ref (v 30), .int 0, .ref (v 32), .int 0, .int 0, .ref (v 35), .ref (v 36), .ref (v 37), .ref (v 38), .long 0, .ref (v 40), .ref (v 41), .ref (v 42), .ref (v 43)])), (v 0, .inl (k 6, 400, .inl (upd (upd q 8 (vp_nar .byte x_1)) 9 (vp_nar .byte x_2))))] H := hP
  have hD : va_D A [(h0, .inr (11, [.ref (v 0), .int 10, .int 0, .ref (v 3), .ref (v 4), .ref (v 5), .ref (v 6), .ref (v 7), .int 0, .int 0, .int 0, .int 0, .int 0, .int 0, .int 0, .ref (v 15), .int 0, .ref (v 17), .int 0, .ref (v 19), .ref (v 20), .int (-1), .int 0, .ref (v 23), .int (-1), .int (-1), .int (-1), .int 0, .int (-1), .int 0, .ref (v 30), .int 0, .ref (v 32), .int 0, .int 0, .ref (v 35), .ref (v 36), .ref (v 37), .ref (v 38), .long 0, .ref (v 40), .ref (v 41), .ref (v 42), .ref (v 43)])), (v 0, .inl (k 6, 400, .inl (upd (upd q 8 (vp_nar .byte x_1)) 9 (vp_nar .byte x_2))))] := hD
  refine lv_iinc (v := 8) (lv' := [(2, .int 8), (0, .ref h0), (1, .int a)]) hx hb dX11_four_30 hl (k := 0) rfl (by decide) (by decide) rfl (fun ls hl => ?_)
  refine lv_goto (tgt := 3) hx hb dX11_four_33 (by decide) ?_
  refine lv_iload_n hx hb dX11_four_3 rfl (lv_at hl 0 rfl) ?_
  refine lv_if_lt (tgt := 36) hx hb dX11_four_4 (by decide) (fun h9 => absurd h9 (by decide)) (fun _ => ?_)
  refine lv_aload_n hx hb dX11_four_7 rfl (lv_at hl 1 rfl) ?_
  refine va_get (D := G) (ci := 11) (v := .ref (v 0)) (C := RX11) (T := TX11) (N := 44) hx hb hts j_m_four_8_11 hown hE.K hP 0 rfl rfl 0 (by decide) (hts (.fieldLink RX11 7 "GossamerGateModel" "tape" "[B") (List.mem_cons_of_mem _ (List.mem_append_left _ (List.mem_of_getElem? (i := 0) rfl)))) (fun _ h9 => h9) rfl dX11_four_8 ?_
  refine lv_aload_n hx hb dX11_four_11 rfl (lv_at hl 1 rfl) ?_
  refine va_get (D := G) (ci := 11) (v := .int 10) (C := RX11) (T := TX11) (N := 44) hx hb hts j_m_four_8_11 hown hE.K hP 0 rfl rfl 1 (by decide) (hts (.fieldLink RX11 92 "GossamerGateModel" "taped" "I") (List.mem_cons_of_mem _ (List.mem_append_left _ (List.mem_of_getElem? (i := 1) rfl)))) (fun _ h9 => h9) rfl dX11_four_12 ?_
  refine lv_iload_n hx hb dX11_four_15 rfl (lv_at hl 2 rfl) ?_
  refine lv_iload_n hx hb dX11_four_16 rfl (lv_at hl 0 rfl) ?_
  refine lv_ishr hx hb dX11_four_17 ?_
  obtain ⟨x_3, ex_3⟩ : ∃ y : Int32, y = ((a >>> (8 &&& 31))).toInt8.toInt32 := ⟨_, rfl⟩
  refine lv_i2b (v := x_3) hx hb dX11_four_18 ex_3.symm ?_
  refine va_bast hx hb hE.K hP hD hS 1 6 rfl rfl (gz_in (by decide)) dX11_four_19 (fun H locs hP hD hS => ?_)
  have hP : va_P G vwCl [(h0, .inr (11, [.ref (v 0), .int 10, .int 0, .ref (v 3), .ref (v 4), .ref (v 5), .ref (v 6), .ref (v 7), .int 0, .int 0, .int 0, .int 0, .int 0, .int 0, .int 0, .ref (v 15), .int 0, .ref (v 17), .int 0, .ref (v 19), .ref (v 20), .int (-1), .int 0, .ref (v 23), .int (-1), .int (-1), .int (-1), .int 0, .int (-1), .int 0, .ref (v 30), .int 0, .ref (v 32), .int 0, .int 0, .ref (v 35), .ref (v 36), .ref (v 37), .ref (v 38), .long 0, .ref (v 40), .ref (v 41), .ref (v 42), .ref (v 43)])), (v 0, .inl (k 6, 400, .inl (upd (upd (upd q 8 (vp_nar .byte x_1)) 9 (vp_nar .byte x_2)) 10 (vp_nar .byte x_3))))] H := hP
  have hD : va_D A [(h0, .inr (11, [.ref (v 0), .int 10, .int 0, .ref (v 3), .ref (v 4), .ref (v 5), .ref (v 6), .ref (v 7), .int 0, .int 0, .int 0, .int 0, .int 0, .int 0, .int 0, .ref (v 15), .int 0, .ref (v 17), .int 0, .ref (v 19), .ref (v 20), .int (-1), .int 0, .ref (v 23), .int (-1), .int (-1), .int (-1), .int 0, .int (-1), .int 0, .ref (v 30), .int 0, .ref (v 32), .int 0, .int 0, .ref (v 35), .ref (v 36), .ref (v 37), .ref (v 38), .long 0, .ref (v 40), .ref (v 41), .ref (v 42), .ref (v 43)])), (v 0, .inl (k 6, 400, .inl (upd (upd (upd q 8 (vp_nar .byte x_1)) 9 (vp_nar .byte x_2)) 10 (vp_nar .byte x_3))))] := hD
  refine lv_aload_n hx hb dX11_four_20 rfl (lv_at hl 1 rfl) ?_
  refine lv_dup hx hb dX11_four_21 rfl ?_
  refine va_get (D := G) (ci := 11) (v := .int 10) (C := RX11) (T := TX11) (N := 44) hx hb hts j_m_four_8_11 hown hE.K hP 0 rfl rfl 1 (by decide) (hts (.fieldLink RX11 92 "GossamerGateModel" "taped" "I") (List.mem_cons_of_mem _ (List.mem_append_left _ (List.mem_of_getElem? (i := 1) rfl)))) (fun _ h9 => h9) rfl dX11_four_22 ?_
  refine lv_iconst (v := 1) hx hb dX11_four_25 (by decide) ?_
  refine lv_iadd hx hb dX11_four_26 ?_
  refine gz_ni (v := 11) (by decide) ?_
  refine va_put (D := G) (ci := 11) (v := .int 11) (ty := .int) (C := RX11) (T := TX11) (N := 44) hx hb hts j_m_four_8_11 tyX11 tyX11_ok nmX11 hown hE.K hP hD hS 0 rfl rfl 1 (by decide) (hts (.fieldLink RX11 92 "GossamerGateModel" "taped" "I") (List.mem_cons_of_mem _ (List.mem_append_left _ (List.mem_of_getElem? (i := 1) rfl)))) (fun _ h9 => h9) rfl (by decide +kernel) rfl rfl (Nat.le_of_ble_eq_true rfl) dX11_four_27 (fun H locs hP hD hS => ?_)
  have hP : va_P G vwCl [(h0, .inr (11, [.ref (v 0), .int 11, .int 0, .ref (v 3), .ref (v 4), .ref (v 5), .ref (v 6), .ref (v 7), .int 0, .int 0, .int 0, .int 0, .int 0, .int 0, .int 0, .ref (v 15), .int 0, .ref (v 17), .int 0, .ref (v 19), .ref (v 20), .int (-1), .int 0, .ref (v 23), .int (-1), .int (-1), .int (-1), .int 0, .int (-1), .int 0, .ref (v 30), .int 0, .ref (v 32), .int 0, .int 0, .ref (v 35), .ref (v 36), .ref (v 37), .ref (v 38), .long 0, .ref (v 40), .ref (v 41), .ref (v 42), .ref (v 43)])), (v 0, .inl (k 6, 400, .inl (upd (upd (upd q 8 (vp_nar .byte x_1)) 9 (vp_nar .byte x_2)) 10 (vp_nar .byte x_3))))] H := hP
  have hD : va_D A [(h0, .inr (11, [.ref (v 0), .int 11, .int 0, .ref (v 3), .ref (v 4), .ref (v 5), .ref (v 6), .ref (v 7), .int 0, .int 0, .int 0, .int 0, .int 0, .int 0, .int 0, .ref (v 15), .int 0, .ref (v 17), .int 0, .ref (v 19), .ref (v 20), .int (-1), .int 0, .ref (v 23), .int (-1), .int (-1), .int (-1), .int 0, .int (-1), .int 0, .ref (v 30), .int 0, .ref (v 32), .int 0, .int 0, .ref (v 35), .ref (v 36), .ref (v 37), .ref (v 38), .long 0, .ref (v 40), .ref (v 41), .ref (v 42), .ref (v 43)])), (v 0, .inl (k 6, 400, .inl (upd (upd (upd q 8 (vp_nar .byte x_1)) 9 (vp_nar .byte x_2)) 10 (vp_nar .byte x_3))))] := hD
  refine lv_iinc (v := 0) (lv' := [(2, .int 0), (0, .ref h0), (1, .int a)]) hx hb dX11_four_30 hl (k := 0) rfl (by decide) (by decide) rfl (fun ls hl => ?_)
  refine lv_goto (tgt := 3) hx hb dX11_four_33 (by decide) ?_
  refine lv_iload_n hx hb dX11_four_3 rfl (lv_at hl 0 rfl) ?_
  refine lv_if_lt (tgt := 36) hx hb dX11_four_4 (by decide) (fun h9 => absurd h9 (by decide)) (fun _ => ?_)
  refine lv_aload_n hx hb dX11_four_7 rfl (lv_at hl 1 rfl) ?_
  refine va_get (D := G) (ci := 11) (v := .ref (v 0)) (C := RX11) (T := TX11) (N := 44) hx hb hts j_m_four_8_11 hown hE.K hP 0 rfl rfl 0 (by decide) (hts (.fieldLink RX11 7 "GossamerGateModel" "tape" "[B") (List.mem_cons_of_mem _ (List.mem_append_left _ (List.mem_of_getElem? (i := 0) rfl)))) (fun _ h9 => h9) rfl dX11_four_8 ?_
  refine lv_aload_n hx hb dX11_four_11 rfl (lv_at hl 1 rfl) ?_
  refine va_get (D := G) (ci := 11) (v := .int 11) (C := RX11) (T := TX11) (N := 44) hx hb hts j_m_four_8_11 hown hE.K hP 0 rfl rfl 1 (by decide) (hts (.fieldLink RX11 92 "GossamerGateModel" "taped" "I") (List.mem_cons_of_mem _ (List.mem_append_left _ (List.mem_of_getElem? (i := 1) rfl)))) (fun _ h9 => h9) rfl dX11_four_12 ?_
  refine lv_iload_n hx hb dX11_four_15 rfl (lv_at hl 2 rfl) ?_
  refine lv_iload_n hx hb dX11_four_16 rfl (lv_at hl 0 rfl) ?_
  refine lv_ishr hx hb dX11_four_17 ?_
  obtain ⟨x_4, ex_4⟩ : ∃ y : Int32, y = ((a >>> (0 &&& 31))).toInt8.toInt32 := ⟨_, rfl⟩
  refine lv_i2b (v := x_4) hx hb dX11_four_18 ex_4.symm ?_
  refine va_bast hx hb hE.K hP hD hS 1 6 rfl rfl (gz_in (by decide)) dX11_four_19 (fun H locs hP hD hS => ?_)
  have hP : va_P G vwCl [(h0, .inr (11, [.ref (v 0), .int 11, .int 0, .ref (v 3), .ref (v 4), .ref (v 5), .ref (v 6), .ref (v 7), .int 0, .int 0, .int 0, .int 0, .int 0, .int 0, .int 0, .ref (v 15), .int 0, .ref (v 17), .int 0, .ref (v 19), .ref (v 20), .int (-1), .int 0, .ref (v 23), .int (-1), .int (-1), .int (-1), .int 0, .int (-1), .int 0, .ref (v 30), .int 0, .ref (v 32), .int 0, .int 0, .ref (v 35), .ref (v 36), .ref (v 37), .ref (v 38), .long 0, .ref (v 40), .ref (v 41), .ref (v 42), .ref (v 43)])), (v 0, .inl (k 6, 400, .inl (upd (upd (upd (upd q 8 (vp_nar .byte x_1)) 9 (vp_nar .byte x_2)) 10 (vp_nar .byte x_3)) 11 (vp_nar .byte x_4))))] H := hP
  have hD : va_D A [(h0, .inr (11, [.ref (v 0), .int 11, .int 0, .ref (v 3), .ref (v 4), .ref (v 5), .ref (v 6), .ref (v 7), .int 0, .int 0, .int 0, .int 0, .int 0, .int 0, .int 0, .ref (v 15), .int 0, .ref (v 17), .int 0, .ref (v 19), .ref (v 20), .int (-1), .int 0, .ref (v 23), .int (-1), .int (-1), .int (-1), .int 0, .int (-1), .int 0, .ref (v 30), .int 0, .ref (v 32), .int 0, .int 0, .ref (v 35), .ref (v 36), .ref (v 37), .ref (v 38), .long 0, .ref (v 40), .ref (v 41), .ref (v 42), .ref (v 43)])), (v 0, .inl (k 6, 400, .inl (upd (upd (upd (upd q 8 (vp_nar .byte x_1)) 9 (vp_nar .byte x_2)) 10 (vp_nar .byte x_3)) 11 (vp_nar .byte x_4))))] := hD
  refine lv_aload_n hx hb dX11_four_20 rfl (lv_at hl 1 rfl) ?_
  refine lv_dup hx hb dX11_four_21 rfl ?_
  refine va_get (D := G) (ci := 11) (v := .int 11) (C := RX11) (T := TX11) (N := 44) hx hb hts j_m_four_8_11 hown hE.K hP 0 rfl rfl 1 (by decide) (hts (.fieldLink RX11 92 "GossamerGateModel" "taped" "I") (List.mem_cons_of_mem _ (List.mem_append_left _ (List.mem_of_getElem? (i := 1) rfl)))) (fun _ h9 => h9) rfl dX11_four_22 ?_
  refine lv_iconst (v := 1) hx hb dX11_four_25 (by decide) ?_
  refine lv_iadd hx hb dX11_four_26 ?_
  refine gz_ni (v := 12) (by decide) ?_
  refine va_put (D := G) (ci := 11) (v := .int 12) (ty := .int) (C := RX11) (T := TX11) (N := 44) hx hb hts j_m_four_8_11 tyX11 tyX11_ok nmX11 hown hE.K hP hD hS 0 rfl rfl 1 (by decide) (hts (.fieldLink RX11 92 "GossamerGateModel" "taped" "I") (List.mem_cons_of_mem _ (List.mem_append_left _ (List.mem_of_getElem? (i := 1) rfl)))) (fun _ h9 => h9) rfl (by decide +kernel) rfl rfl (Nat.le_of_ble_eq_true rfl) dX11_four_27 (fun H locs hP hD hS => ?_)
  have hP : va_P G vwCl [(h0, .inr (11, [.ref (v 0), .int 12, .int 0, .ref (v 3), .ref (v 4), .ref (v 5), .ref (v 6), .ref (v 7), .int 0, .int 0, .int 0, .int 0, .int 0, .int 0, .int 0, .ref (v 15), .int 0, .ref (v 17), .int 0, .ref (v 19), .ref (v 20), .int (-1), .int 0, .ref (v 23), .int (-1), .int (-1), .int (-1), .int 0, .int (-1), .int 0, .ref (v 30), .int 0, .ref (v 32), .int 0, .int 0, .ref (v 35), .ref (v 36), .ref (v 37), .ref (v 38), .long 0, .ref (v 40), .ref (v 41), .ref (v 42), .ref (v 43)])), (v 0, .inl (k 6, 400, .inl (upd (upd (upd (upd q 8 (vp_nar .byte x_1)) 9 (vp_nar .byte x_2)) 10 (vp_nar .byte x_3)) 11 (vp_nar .byte x_4))))] H := hP
  have hD : va_D A [(h0, .inr (11, [.ref (v 0), .int 12, .int 0, .ref (v 3), .ref (v 4), .ref (v 5), .ref (v 6), .ref (v 7), .int 0, .int 0, .int 0, .int 0, .int 0, .int 0, .int 0, .ref (v 15), .int 0, .ref (v 17), .int 0, .ref (v 19), .ref (v 20), .int (-1), .int 0, .ref (v 23), .int (-1), .int (-1), .int (-1), .int 0, .int (-1), .int 0, .ref (v 30), .int 0, .ref (v 32), .int 0, .int 0, .ref (v 35), .ref (v 36), .ref (v 37), .ref (v 38), .long 0, .ref (v 40), .ref (v 41), .ref (v 42), .ref (v 43)])), (v 0, .inl (k 6, 400, .inl (upd (upd (upd (upd q 8 (vp_nar .byte x_1)) 9 (vp_nar .byte x_2)) 10 (vp_nar .byte x_3)) 11 (vp_nar .byte x_4))))] := hD
  refine lv_iinc (v := (-8)) (lv' := [(2, .int (-8)), (0, .ref h0), (1, .int a)]) hx hb dX11_four_30 hl (k := 0) rfl (by decide) (by decide) rfl (fun ls hl => ?_)
  refine lv_goto (tgt := 3) hx hb dX11_four_33 (by decide) ?_
  refine lv_iload_n hx hb dX11_four_3 rfl (lv_at hl 0 rfl) ?_
  refine lv_if_lt (tgt := 36) hx hb dX11_four_4 (by decide) (fun _ => ?_) (fun h9 => absurd h9 (by decide))
  have hP9 := hP.sub (ws' := [(h0, .inr (11, [.ref (v 0), .int 12, .int 0, .ref (v 3), .ref (v 4), .ref (v 5), .ref (v 6), .ref (v 7), .int 0, .int 0, .int 0, .int 0, .int 0, .int 0, .int 0, .ref (v 15), .int 0, .ref (v 17), .int 0, .ref (v 19), .ref (v 20), .int (-1), .int 0, .ref (v 23), .int (-1), .int (-1), .int (-1), .int 0, .int (-1), .int 0, .ref (v 30), .int 0, .ref (v 32), .int 0, .int 0, .ref (v 35), .ref (v 36), .ref (v 37), .ref (v 38), .long 0, .ref (v 40), .ref (v 41), .ref (v 42), .ref (v 43)])), (v 0, .inl (k 6, 400, .inl (upd (upd (upd (upd q 8 (vp_nar .byte x_1)) 9 (vp_nar .byte x_2)) 10 (vp_nar .byte x_3)) 11 (vp_nar .byte x_4))))]) [0, 1] rfl
  have hD9 := hD.sub (ws' := [(h0, .inr (11, [.ref (v 0), .int 12, .int 0, .ref (v 3), .ref (v 4), .ref (v 5), .ref (v 6), .ref (v 7), .int 0, .int 0, .int 0, .int 0, .int 0, .int 0, .int 0, .ref (v 15), .int 0, .ref (v 17), .int 0, .ref (v 19), .ref (v 20), .int (-1), .int 0, .ref (v 23), .int (-1), .int (-1), .int (-1), .int 0, .int (-1), .int 0, .ref (v 30), .int 0, .ref (v 32), .int 0, .int 0, .ref (v 35), .ref (v 36), .ref (v 37), .ref (v 38), .long 0, .ref (v 40), .ref (v 41), .ref (v 42), .ref (v 43)])), (v 0, .inl (k 6, 400, .inl (upd (upd (upd (upd q 8 (vp_nar .byte x_1)) 9 (vp_nar .byte x_2)) 10 (vp_nar .byte x_3)) 11 (vp_nar .byte x_4))))]) [0, 1] (by decide) rfl
  exact W.vret hx hb hr (fun t ht hW => ⟨⟨upd (upd (upd (upd q 8 (vp_nar .byte x_1)) 9 (vp_nar .byte x_2)) 10 (vp_nar .byte x_3)) 11 (vp_nar .byte x_4), rfl, trivial, by rw [ht]; exact hP9, hD9⟩, hS.F ht⟩) hS.2.2 dX11_four_36
set_option maxHeartbeats 4000000 in
set_option maxRecDepth 100000 in
theorem m_four_12 (l : Launch) (G : va_G) (k : Nat → ClassId) (sa : Nat → Nat) (sz : Nat) (h0 : Nat) (v : Nat → Nat) (a : Int32) (q : Nat → Int32) : Met l yX11_four vs_m_four_12 ({ frames := 0, cells := 0, slots := 0, locals := 0 } : Room) (gP G k sa [.ref h0, .int a] [(h0, .inr (11, [.ref (v 0), .int 12, .int 0, .ref (v 3), .ref (v 4), .ref (v 5), .ref (v 6), .ref (v 7), .int 0, .int 0, .int 0, .int 0, .int 0, .int 0, .int 0, .ref (v 15), .int 0, .ref (v 17), .int 0, .ref (v 19), .ref (v 20), .int (-1), .int 0, .ref (v 23), .int (-1), .int (-1), .int (-1), .int 0, .int (-1), .int 0, .ref (v 30), .int 0, .ref (v 32), .int 0, .int 0, .ref (v 35), .ref (v 36), .ref (v 37), .ref (v 38), .long 0, .ref (v 40), .ref (v 41), .ref (v 42), .ref (v 43)])), (v 0, .inl (k 6, 400, .inl q))] sz) (va_Qv (fun _ : Nat → Int32 => True) (gO G (va_A ([(h0, .inr (11, [.ref (v 0), .int 12, .int 0, .ref (v 3), .ref (v 4), .ref (v 5), .ref (v 6), .ref (v 7), .int 0, .int 0, .int 0, .int 0, .int 0, .int 0, .int 0, .ref (v 15), .int 0, .ref (v 17), .int 0, .ref (v 19), .ref (v 20), .int (-1), .int 0, .ref (v 23), .int (-1), .int (-1), .int (-1), .int 0, .int (-1), .int 0, .ref (v 30), .int 0, .ref (v 32), .int 0, .int 0, .ref (v 35), .ref (v 36), .ref (v 37), .ref (v 38), .long 0, .ref (v 40), .ref (v 41), .ref (v 42), .ref (v 43)])), (v 0, .inl (k 6, 400, .inl q))]) sz) (fun u => [(h0, .inr (11, [.ref (v 0), .int 16, .int 0, .ref (v 3), .ref (v 4), .ref (v 5), .ref (v 6), .ref (v 7), .int 0, .int 0, .int 0, .int 0, .int 0, .int 0, .int 0, .ref (v 15), .int 0, .ref (v 17), .int 0, .ref (v 19), .ref (v 20), .int (-1), .int 0, .ref (v 23), .int (-1), .int (-1), .int (-1), .int 0, .int (-1), .int 0, .ref (v 30), .int 0, .ref (v 32), .int 0, .int 0, .ref (v 35), .ref (v 36), .ref (v 37), .ref (v 38), .long 0, .ref (v 40), .ref (v 41), .ref (v 42), .ref (v 43)])), (v 0, .inl (k 6, 400, .inl u))])) (va_A ([(h0, .inr (11, [.ref (v 0), .int 12, .int 0, .ref (v 3), .ref (v 4), .ref (v 5), .ref (v 6), .ref (v 7), .int 0, .int 0, .int 0, .int 0, .int 0, .int 0, .int 0, .ref (v 15), .int 0, .ref (v 17), .int 0, .ref (v 19), .ref (v 20), .int (-1), .int 0, .ref (v 23), .int (-1), .int (-1), .int (-1), .int 0, .int (-1), .int 0, .ref (v 30), .int 0, .ref (v 32), .int 0, .int 0, .ref (v 35), .ref (v 36), .ref (v 37), .ref (v 38), .long 0, .ref (v 40), .ref (v 41), .ref (v 42), .ref (v 43)])), (v 0, .inl (k 6, 400, .inl q))]) sz)) 0 0 (va_A ([(h0, .inr (11, [.ref (v 0), .int 12, .int 0, .ref (v 3), .ref (v 4), .ref (v 5), .ref (v 6), .ref (v 7), .int 0, .int 0, .int 0, .int 0, .int 0, .int 0, .int 0, .ref (v 15), .int 0, .ref (v 17), .int 0, .ref (v 19), .ref (v 20), .int (-1), .int 0, .ref (v 23), .int (-1), .int (-1), .int (-1), .int 0, .int (-1), .int 0, .ref (v 30), .int 0, .ref (v 32), .int 0, .int 0, .ref (v 35), .ref (v 36), .ref (v 37), .ref (v 38), .long 0, .ref (v 40), .ref (v 41), .ref (v 42), .ref (v 43)])), (v 0, .inl (k 6, 400, .inl q))]) sz) := by
  refine gz_met (cc := cX11_four) (maxL := 3) (ret := none) (by decide) rfl (Nat.le_of_ble_eq_true rfl) ?_
  intro p_ e_ s_ m below_ meth_ c_ ls hx hb hr hml hts hown hlocks hin hP hE hD hA hS
  generalize hAe : va_A ([(h0, .inr (11, [.ref (v 0), .int 12, .int 0, .ref (v 3), .ref (v 4), .ref (v 5), .ref (v 6), .ref (v 7), .int 0, .int 0, .int 0, .int 0, .int 0, .int 0, .int 0, .ref (v 15), .int 0, .ref (v 17), .int 0, .ref (v 19), .ref (v 20), .int (-1), .int 0, .ref (v 23), .int (-1), .int (-1), .int (-1), .int 0, .int (-1), .int 0, .ref (v 30), .int 0, .ref (v 32), .int 0, .int 0, .ref (v 35), .ref (v 36), .ref (v 37), .ref (v 38), .long 0, .ref (v 40), .ref (v 41), .ref (v 42), .ref (v 43)])), (v 0, .inl (k 6, 400, .inl q))]) sz = A at hD hA hS ⊢
  intro hl
  have hl : lv_has ls 3 [(0, .ref h0), (1, .int a)] := hl
  refine lv_bipush (v := 24) hx hb dX11_four_0 (by decide) ?_
  refine lv_istore_n (lv' := [(2, .int 24), (0, .ref h0), (1, .int a)]) hx hb dX11_four_2 rfl hl (by decide) rfl (fun ls hl => ?_)
  refine lv_iload_n hx hb dX11_four_3 rfl (lv_at hl 0 rfl) ?_
  refine lv_if_lt (tgt := 36) hx hb dX11_four_4 (by decide) (fun h9 => absurd h9 (by decide)) (fun _ => ?_)
  refine lv_aload_n hx hb dX11_four_7 rfl (lv_at hl 1 rfl) ?_
  refine va_get (D := G) (ci := 11) (v := .ref (v 0)) (C := RX11) (T := TX11) (N := 44) hx hb hts j_m_four_12_11 hown hE.K hP 0 rfl rfl 0 (by decide) (hts (.fieldLink RX11 7 "GossamerGateModel" "tape" "[B") (List.mem_cons_of_mem _ (List.mem_append_left _ (List.mem_of_getElem? (i := 0) rfl)))) (fun _ h9 => h9) rfl dX11_four_8 ?_
  refine lv_aload_n hx hb dX11_four_11 rfl (lv_at hl 1 rfl) ?_
  refine va_get (D := G) (ci := 11) (v := .int 12) (C := RX11) (T := TX11) (N := 44) hx hb hts j_m_four_12_11 hown hE.K hP 0 rfl rfl 1 (by decide) (hts (.fieldLink RX11 92 "GossamerGateModel" "taped" "I") (List.mem_cons_of_mem _ (List.mem_append_left _ (List.mem_of_getElem? (i := 1) rfl)))) (fun _ h9 => h9) rfl dX11_four_12 ?_
  refine lv_iload_n hx hb dX11_four_15 rfl (lv_at hl 2 rfl) ?_
  refine lv_iload_n hx hb dX11_four_16 rfl (lv_at hl 0 rfl) ?_
  refine lv_ishr hx hb dX11_four_17 ?_
  obtain ⟨x_1, ex_1⟩ : ∃ y : Int32, y = ((a >>> (24 &&& 31))).toInt8.toInt32 := ⟨_, rfl⟩
  refine lv_i2b (v := x_1) hx hb dX11_four_18 ex_1.symm ?_
  refine va_bast hx hb hE.K hP hD hS 1 6 rfl rfl (gz_in (by decide)) dX11_four_19 (fun H locs hP hD hS => ?_)
  have hP : va_P G vwCl [(h0, .inr (11, [.ref (v 0), .int 12, .int 0, .ref (v 3), .ref (v 4), .ref (v 5), .ref (v 6), .ref (v 7), .int 0, .int 0, .int 0, .int 0, .int 0, .int 0, .int 0, .ref (v 15), .int 0, .ref (v 17), .int 0, .ref (v 19), .ref (v 20), .int (-1), .int 0, .ref (v 23), .int (-1), .int (-1), .int (-1), .int 0, .int (-1), .int 0, .ref (v 30), .int 0, .ref (v 32), .int 0, .int 0, .ref (v 35), .ref (v 36), .ref (v 37), .ref (v 38), .long 0, .ref (v 40), .ref (v 41), .ref (v 42), .ref (v 43)])), (v 0, .inl (k 6, 400, .inl (upd q 12 (vp_nar .byte x_1))))] H := hP
  have hD : va_D A [(h0, .inr (11, [.ref (v 0), .int 12, .int 0, .ref (v 3), .ref (v 4), .ref (v 5), .ref (v 6), .ref (v 7), .int 0, .int 0, .int 0, .int 0, .int 0, .int 0, .int 0, .ref (v 15), .int 0, .ref (v 17), .int 0, .ref (v 19), .ref (v 20), .int (-1), .int 0, .ref (v 23), .int (-1), .int (-1), .int (-1), .int 0, .int (-1), .int 0, .ref (v 30), .int 0, .ref (v 32), .int 0, .int 0, .ref (v 35), .ref (v 36), .ref (v 37), .ref (v 38), .long 0, .ref (v 40), .ref (v 41), .ref (v 42), .ref (v 43)])), (v 0, .inl (k 6, 400, .inl (upd q 12 (vp_nar .byte x_1))))] := hD
  refine lv_aload_n hx hb dX11_four_20 rfl (lv_at hl 1 rfl) ?_
  refine lv_dup hx hb dX11_four_21 rfl ?_
  refine va_get (D := G) (ci := 11) (v := .int 12) (C := RX11) (T := TX11) (N := 44) hx hb hts j_m_four_12_11 hown hE.K hP 0 rfl rfl 1 (by decide) (hts (.fieldLink RX11 92 "GossamerGateModel" "taped" "I") (List.mem_cons_of_mem _ (List.mem_append_left _ (List.mem_of_getElem? (i := 1) rfl)))) (fun _ h9 => h9) rfl dX11_four_22 ?_
  refine lv_iconst (v := 1) hx hb dX11_four_25 (by decide) ?_
  refine lv_iadd hx hb dX11_four_26 ?_
  refine gz_ni (v := 13) (by decide) ?_
  refine va_put (D := G) (ci := 11) (v := .int 13) (ty := .int) (C := RX11) (T := TX11) (N := 44) hx hb hts j_m_four_12_11 tyX11 tyX11_ok nmX11 hown hE.K hP hD hS 0 rfl rfl 1 (by decide) (hts (.fieldLink RX11 92 "GossamerGateModel" "taped" "I") (List.mem_cons_of_mem _ (List.mem_append_left _ (List.mem_of_getElem? (i := 1) rfl)))) (fun _ h9 => h9) rfl (by decide +kernel) rfl rfl (Nat.le_of_ble_eq_true rfl) dX11_four_27 (fun H locs hP hD hS => ?_)
  have hP : va_P G vwCl [(h0, .inr (11, [.ref (v 0), .int 13, .int 0, .ref (v 3), .ref (v 4), .ref (v 5), .ref (v 6), .ref (v 7), .int 0, .int 0, .int 0, .int 0, .int 0, .int 0, .int 0, .ref (v 15), .int 0, .ref (v 17), .int 0, .ref (v 19), .ref (v 20), .int (-1), .int 0, .ref (v 23), .int (-1), .int (-1), .int (-1), .int 0, .int (-1), .int 0, .ref (v 30), .int 0, .ref (v 32), .int 0, .int 0, .ref (v 35), .ref (v 36), .ref (v 37), .ref (v 38), .long 0, .ref (v 40), .ref (v 41), .ref (v 42), .ref (v 43)])), (v 0, .inl (k 6, 400, .inl (upd q 12 (vp_nar .byte x_1))))] H := hP
  have hD : va_D A [(h0, .inr (11, [.ref (v 0), .int 13, .int 0, .ref (v 3), .ref (v 4), .ref (v 5), .ref (v 6), .ref (v 7), .int 0, .int 0, .int 0, .int 0, .int 0, .int 0, .int 0, .ref (v 15), .int 0, .ref (v 17), .int 0, .ref (v 19), .ref (v 20), .int (-1), .int 0, .ref (v 23), .int (-1), .int (-1), .int (-1), .int 0, .int (-1), .int 0, .ref (v 30), .int 0, .ref (v 32), .int 0, .int 0, .ref (v 35), .ref (v 36), .ref (v 37), .ref (v 38), .long 0, .ref (v 40), .ref (v 41), .ref (v 42), .ref (v 43)])), (v 0, .inl (k 6, 400, .inl (upd q 12 (vp_nar .byte x_1))))] := hD
  refine lv_iinc (v := 16) (lv' := [(2, .int 16), (0, .ref h0), (1, .int a)]) hx hb dX11_four_30 hl (k := 0) rfl (by decide) (by decide) rfl (fun ls hl => ?_)
  refine lv_goto (tgt := 3) hx hb dX11_four_33 (by decide) ?_
  refine lv_iload_n hx hb dX11_four_3 rfl (lv_at hl 0 rfl) ?_
  refine lv_if_lt (tgt := 36) hx hb dX11_four_4 (by decide) (fun h9 => absurd h9 (by decide)) (fun _ => ?_)
  refine lv_aload_n hx hb dX11_four_7 rfl (lv_at hl 1 rfl) ?_
  refine va_get (D := G) (ci := 11) (v := .ref (v 0)) (C := RX11) (T := TX11) (N := 44) hx hb hts j_m_four_12_11 hown hE.K hP 0 rfl rfl 0 (by decide) (hts (.fieldLink RX11 7 "GossamerGateModel" "tape" "[B") (List.mem_cons_of_mem _ (List.mem_append_left _ (List.mem_of_getElem? (i := 0) rfl)))) (fun _ h9 => h9) rfl dX11_four_8 ?_
  refine lv_aload_n hx hb dX11_four_11 rfl (lv_at hl 1 rfl) ?_
  refine va_get (D := G) (ci := 11) (v := .int 13) (C := RX11) (T := TX11) (N := 44) hx hb hts j_m_four_12_11 hown hE.K hP 0 rfl rfl 1 (by decide) (hts (.fieldLink RX11 92 "GossamerGateModel" "taped" "I") (List.mem_cons_of_mem _ (List.mem_append_left _ (List.mem_of_getElem? (i := 1) rfl)))) (fun _ h9 => h9) rfl dX11_four_12 ?_
  refine lv_iload_n hx hb dX11_four_15 rfl (lv_at hl 2 rfl) ?_
  refine lv_iload_n hx hb dX11_four_16 rfl (lv_at hl 0 rfl) ?_
  refine lv_ishr hx hb dX11_four_17 ?_
  obtain ⟨x_2, ex_2⟩ : ∃ y : Int32, y = ((a >>> (16 &&& 31))).toInt8.toInt32 := ⟨_, rfl⟩
  refine lv_i2b (v := x_2) hx hb dX11_four_18 ex_2.symm ?_
  refine va_bast hx hb hE.K hP hD hS 1 6 rfl rfl (gz_in (by decide)) dX11_four_19 (fun H locs hP hD hS => ?_)
  have hP : va_P G vwCl [(h0, .inr (11, [.ref (v 0), .int 13, .int 0, .ref (v 3), .ref (v 4), .ref (v 5), .ref (v 6), .ref (v 7), .int 0, .int 0, .int 0, .int 0, .int 0, .int 0, .int 0, .ref (v 15), .int 0, .ref (v 17), .int 0, .ref (v 19), .ref (v 20), .int (-1), .int 0, .ref (v 23), .int (-1), .int (-1), .int (-1), .int 0, .int (-1), .int 0, .ref (v 30), .int 0, .ref (v 32), .int 0, .int 0, .ref (v 35), .ref (v 36), .ref (v 37), .ref (v 38), .long 0, .ref (v 40), .ref (v 41), .ref (v 42), .ref (v 43)])), (v 0, .inl (k 6, 400, .inl (upd (upd q 12 (vp_nar .byte x_1)) 13 (vp_nar .byte x_2))))] H := hP
  have hD : va_D A [(h0, .inr (11, [.ref (v 0), .int 13, .int 0, .ref (v 3), .ref (v 4), .ref (v 5), .ref (v 6), .ref (v 7), .int 0, .int 0, .int 0, .int 0, .int 0, .int 0, .int 0, .ref (v 15), .int 0, .ref (v 17), .int 0, .ref (v 19), .ref (v 20), .int (-1), .int 0, .ref (v 23), .int (-1), .int (-1), .int (-1), .int 0, .int (-1), .int 0, .ref (v 30), .int 0, .ref (v 32), .int 0, .int 0, .ref (v 35), .ref (v 36), .ref (v 37), .ref (v 38), .long 0, .ref (v 40), .ref (v 41), .ref (v 42), .ref (v 43)])), (v 0, .inl (k 6, 400, .inl (upd (upd q 12 (vp_nar .byte x_1)) 13 (vp_nar .byte x_2))))] := hD
  refine lv_aload_n hx hb dX11_four_20 rfl (lv_at hl 1 rfl) ?_
  refine lv_dup hx hb dX11_four_21 rfl ?_
  refine va_get (D := G) (ci := 11) (v := .int 13) (C := RX11) (T := TX11) (N := 44) hx hb hts j_m_four_12_11 hown hE.K hP 0 rfl rfl 1 (by decide) (hts (.fieldLink RX11 92 "GossamerGateModel" "taped" "I") (List.mem_cons_of_mem _ (List.mem_append_left _ (List.mem_of_getElem? (i := 1) rfl)))) (fun _ h9 => h9) rfl dX11_four_22 ?_
  refine lv_iconst (v := 1) hx hb dX11_four_25 (by decide) ?_
  refine lv_iadd hx hb dX11_four_26 ?_
  refine gz_ni (v := 14) (by decide) ?_
  refine va_put (D := G) (ci := 11) (v := .int 14) (ty := .int) (C := RX11) (T := TX11) (N := 44) hx hb hts j_m_four_12_11 tyX11 tyX11_ok nmX11 hown hE.K hP hD hS 0 rfl rfl 1 (by decide) (hts (.fieldLink RX11 92 "GossamerGateModel" "taped" "I") (List.mem_cons_of_mem _ (List.mem_append_left _ (List.mem_of_getElem? (i := 1) rfl)))) (fun _ h9 => h9) rfl (by decide +kernel) rfl rfl (Nat.le_of_ble_eq_true rfl) dX11_four_27 (fun H locs hP hD hS => ?_)
  have hP : va_P G vwCl [(h0, .inr (11, [.ref (v 0), .int 14, .int 0, .ref (v 3), .ref (v 4), .ref (v 5), .ref (v 6), .ref (v 7), .int 0, .int 0, .int 0, .int 0, .int 0, .int 0, .int 0, .ref (v 15), .int 0, .ref (v 17), .int 0, .ref (v 19), .ref (v 20), .int (-1), .int 0, .ref (v 23), .int (-1), .int (-1), .int (-1), .int 0, .int (-1), .int 0, .ref (v 30), .int 0, .ref (v 32), .int 0, .int 0, .ref (v 35), .ref (v 36), .ref (v 37), .ref (v 38), .long 0, .ref (v 40), .ref (v 41), .ref (v 42), .ref (v 43)])), (v 0, .inl (k 6, 400, .inl (upd (upd q 12 (vp_nar .byte x_1)) 13 (vp_nar .byte x_2))))] H := hP
  have hD : va_D A [(h0, .inr (11, [.ref (v 0), .int 14, .int 0, .ref (v 3), .ref (v 4), .ref (v 5), .ref (v 6), .ref (v 7), .int 0, .int 0, .int 0, .int 0, .int 0, .int 0, .int 0, .ref (v 15), .int 0, .ref (v 17), .int 0, .ref (v 19), .ref (v 20), .int (-1), .int 0, .ref (v 23), .int (-1), .int (-1), .int (-1), .int 0, .int (-1), .int 0, .ref (v 30), .int 0, .ref (v 32), .int 0, .int 0, .ref (v 35), .ref (v 36), .ref (v 37), .ref (v 38), .long 0, .ref (v 40), .ref (v 41), .ref (v 42), .ref (v 43)])), (v 0, .inl (k 6, 400, .inl (upd (upd q 12 (vp_nar .byte x_1)) 13 (vp_nar .byte x_2))))] := hD
  refine lv_iinc (v := 8) (lv' := [(2, .int 8), (0, .ref h0), (1, .int a)]) hx hb dX11_four_30 hl (k := 0) rfl (by decide) (by decide) rfl (fun ls hl => ?_)
  refine lv_goto (tgt := 3) hx hb dX11_four_33 (by decide) ?_
  refine lv_iload_n hx hb dX11_four_3 rfl (lv_at hl 0 rfl) ?_
  refine lv_if_lt (tgt := 36) hx hb dX11_four_4 (by decide) (fun h9 => absurd h9 (by decide)) (fun _ => ?_)
  refine lv_aload_n hx hb dX11_four_7 rfl (lv_at hl 1 rfl) ?_
  refine va_get (D := G) (ci := 11) (v := .ref (v 0)) (C := RX11) (T := TX11) (N := 44) hx hb hts j_m_four_12_11 hown hE.K hP 0 rfl rfl 0 (by decide) (hts (.fieldLink RX11 7 "GossamerGateModel" "tape" "[B") (List.mem_cons_of_mem _ (List.mem_append_left _ (List.mem_of_getElem? (i := 0) rfl)))) (fun _ h9 => h9) rfl dX11_four_8 ?_
  refine lv_aload_n hx hb dX11_four_11 rfl (lv_at hl 1 rfl) ?_
  refine va_get (D := G) (ci := 11) (v := .int 14) (C := RX11) (T := TX11) (N := 44) hx hb hts j_m_four_12_11 hown hE.K hP 0 rfl rfl 1 (by decide) (hts (.fieldLink RX11 92 "GossamerGateModel" "taped" "I") (List.mem_cons_of_mem _ (List.mem_append_left _ (List.mem_of_getElem? (i := 1) rfl)))) (fun _ h9 => h9) rfl dX11_four_12 ?_
  refine lv_iload_n hx hb dX11_four_15 rfl (lv_at hl 2 rfl) ?_
  refine lv_iload_n hx hb dX11_four_16 rfl (lv_at hl 0 rfl) ?_
  refine lv_ishr hx hb dX11_four_17 ?_
  obtain ⟨x_3, ex_3⟩ : ∃ y : Int32, y = ((a >>> (8 &&& 31))).toInt8.toInt32 := ⟨_, rfl⟩
  refine lv_i2b (v := x_3) hx hb dX11_four_18 ex_3.symm ?_
  refine va_bast hx hb hE.K hP hD hS 1 6 rfl rfl (gz_in (by decide)) dX11_four_19 (fun H locs hP hD hS => ?_)
  have hP : va_P G vwCl [(h0, .inr (11, [.ref (v 0), .int 14, .int 0, .ref (v 3), .ref (v 4), .ref (v 5), .ref (v 6), .ref (v 7), .int 0, .int 0, .int 0, .int 0, .int 0, .int 0, .int 0, .ref (v 15), .int 0, .ref (v 17), .int 0, .ref (v 19), .ref (v 20), .int (-1), .int 0, .ref (v 23), .int (-1), .int (-1), .int (-1), .int 0, .int (-1), .int 0, .ref (v 30), .int 0, .ref (v 32), .int 0, .int 0, .ref (v 35), .ref (v 36), .ref (v 37), .ref (v 38), .long 0, .ref (v 40), .ref (v 41), .ref (v 42), .ref (v 43)])), (v 0, .inl (k 6, 400, .inl (upd (upd (upd q 12 (vp_nar .byte x_1)) 13 (vp_nar .byte x_2)) 14 (vp_nar .byte x_3))))] H := hP
  have hD : va_D A [(h0, .inr (11, [.ref (v 0), .int 14, .int 0, .ref (v 3), .ref (v 4), .ref (v 5), .ref (v 6), .ref (v 7), .int 0, .int 0, .int 0, .int 0, .int 0, .int 0, .int 0, .ref (v 15), .int 0, .ref (v 17), .int 0, .ref (v 19), .ref (v 20), .int (-1), .int 0, .ref (v 23), .int (-1), .int (-1), .int (-1), .int 0, .int (-1), .int 0, .ref (v 30), .int 0, .ref (v 32), .int 0, .int 0, .ref (v 35), .ref (v 36), .ref (v 37), .ref (v 38), .long 0, .ref (v 40), .ref (v 41), .ref (v 42), .ref (v 43)])), (v 0, .inl (k 6, 400, .inl (upd (upd (upd q 12 (vp_nar .byte x_1)) 13 (vp_nar .byte x_2)) 14 (vp_nar .byte x_3))))] := hD
  refine lv_aload_n hx hb dX11_four_20 rfl (lv_at hl 1 rfl) ?_
  refine lv_dup hx hb dX11_four_21 rfl ?_
  refine va_get (D := G) (ci := 11) (v := .int 14) (C := RX11) (T := TX11) (N := 44) hx hb hts j_m_four_12_11 hown hE.K hP 0 rfl rfl 1 (by decide) (hts (.fieldLink RX11 92 "GossamerGateModel" "taped" "I") (List.mem_cons_of_mem _ (List.mem_append_left _ (List.mem_of_getElem? (i := 1) rfl)))) (fun _ h9 => h9) rfl dX11_four_22 ?_
  refine lv_iconst (v := 1) hx hb dX11_four_25 (by decide) ?_
  refine lv_iadd hx hb dX11_four_26 ?_
  refine gz_ni (v := 15) (by decide) ?_
  refine va_put (D := G) (ci := 11) (v := .int 15) (ty := .int) (C := RX11) (T := TX11) (N := 44) hx hb hts j_m_four_12_11 tyX11 tyX11_ok nmX11 hown hE.K hP hD hS 0 rfl rfl 1 (by decide) (hts (.fieldLink RX11 92 "GossamerGateModel" "taped" "I") (List.mem_cons_of_mem _ (List.mem_append_left _ (List.mem_of_getElem? (i := 1) rfl)))) (fun _ h9 => h9) rfl (by decide +kernel) rfl rfl (Nat.le_of_ble_eq_true rfl) dX11_four_27 (fun H locs hP hD hS => ?_)
  have hP : va_P G vwCl [(h0, .inr (11, [.ref (v 0), .int 15, .int 0, .ref (v 3), .ref (v 4), .ref (v 5), .ref (v 6), .ref (v 7), .int 0, .int 0, .int 0, .int 0, .int 0, .int 0, .int 0, .ref (v 15), .int 0, .ref (v 17), .int 0, .ref (v 19), .ref (v 20), .int (-1), .int 0, .ref (v 23), .int (-1), .int (-1), .int (-1), .int 0, .int (-1), .int 0, .ref (v 30), .int 0, .ref (v 32), .int 0, .int 0, .ref (v 35), .ref (v 36), .ref (v 37), .ref (v 38), .long 0, .ref (v 40), .ref (v 41), .ref (v 42), .ref (v 43)])), (v 0, .inl (k 6, 400, .inl (upd (upd (upd q 12 (vp_nar .byte x_1)) 13 (vp_nar .byte x_2)) 14 (vp_nar .byte x_3))))] H := hP
  have hD : va_D A [(h0, .inr (11, [.ref (v 0), .int 15, .int 0, .ref (v 3), .ref (v 4), .ref (v 5), .ref (v 6), .ref (v 7), .int 0, .int 0, .int 0, .int 0, .int 0, .int 0, .int 0, .ref (v 15), .int 0, .ref (v 17), .int 0, .ref (v 19), .ref (v 20), .int (-1), .int 0, .ref (v 23), .int (-1), .int (-1), .int (-1), .int 0, .int (-1), .int 0, .ref (v 30), .int 0, .ref (v 32), .int 0, .int 0, .ref (v 35), .ref (v 36), .ref (v 37), .ref (v 38), .long 0, .ref (v 40), .ref (v 41), .ref (v 42), .ref (v 43)])), (v 0, .inl (k 6, 400, .inl (upd (upd (upd q 12 (vp_nar .byte x_1)) 13 (vp_nar .byte x_2)) 14 (vp_nar .byte x_3))))] := hD
  refine lv_iinc (v := 0) (lv' := [(2, .int 0), (0, .ref h0), (1, .int a)]) hx hb dX11_four_30 hl (k := 0) rfl (by decide) (by decide) rfl (fun ls hl => ?_)
  refine lv_goto (tgt := 3) hx hb dX11_four_33 (by decide) ?_
  refine lv_iload_n hx hb dX11_four_3 rfl (lv_at hl 0 rfl) ?_
  refine lv_if_lt (tgt := 36) hx hb dX11_four_4 (by decide) (fun h9 => absurd h9 (by decide)) (fun _ => ?_)
  refine lv_aload_n hx hb dX11_four_7 rfl (lv_at hl 1 rfl) ?_
  refine va_get (D := G) (ci := 11) (v := .ref (v 0)) (C := RX11) (T := TX11) (N := 44) hx hb hts j_m_four_12_11 hown hE.K hP 0 rfl rfl 0 (by decide) (hts (.fieldLink RX11 7 "GossamerGateModel" "tape" "[B") (List.mem_cons_of_mem _ (List.mem_append_left _ (List.mem_of_getElem? (i := 0) rfl)))) (fun _ h9 => h9) rfl dX11_four_8 ?_
  refine lv_aload_n hx hb dX11_four_11 rfl (lv_at hl 1 rfl) ?_
  refine va_get (D := G) (ci := 11) (v := .int 15) (C := RX11) (T := TX11) (N := 44) hx hb hts j_m_four_12_11 hown hE.K hP 0 rfl rfl 1 (by decide) (hts (.fieldLink RX11 92 "GossamerGateModel" "taped" "I") (List.mem_cons_of_mem _ (List.mem_append_left _ (List.mem_of_getElem? (i := 1) rfl)))) (fun _ h9 => h9) rfl dX11_four_12 ?_
  refine lv_iload_n hx hb dX11_four_15 rfl (lv_at hl 2 rfl) ?_
  refine lv_iload_n hx hb dX11_four_16 rfl (lv_at hl 0 rfl) ?_
  refine lv_ishr hx hb dX11_four_17 ?_
  obtain ⟨x_4, ex_4⟩ : ∃ y : Int32, y = ((a >>> (0 &&& 31))).toInt8.toInt32 := ⟨_, rfl⟩
  refine lv_i2b (v := x_4) hx hb dX11_four_18 ex_4.symm ?_
  refine va_bast hx hb hE.K hP hD hS 1 6 rfl rfl (gz_in (by decide)) dX11_four_19 (fun H locs hP hD hS => ?_)
  have hP : va_P G vwCl [(h0, .inr (11, [.ref (v 0), .int 15, .int 0, .ref (v 3), .ref (v 4), .ref (v 5), .ref (v 6), .ref (v 7), .int 0, .int 0, .int 0, .int 0, .int 0, .int 0, .int 0, .ref (v 15), .int 0, .ref (v 17), .int 0, .ref (v 19), .ref (v 20), .int (-1), .int 0, .ref (v 23), .int (-1), .int (-1), .int (-1), .int 0, .int (-1), .int 0, .ref (v 30), .int 0, .ref (v 32), .int 0, .int 0, .ref (v 35), .ref (v 36), .ref (v 37), .ref (v 38), .long 0, .ref (v 40), .ref (v 41), .ref (v 42), .ref (v 43)])), (v 0, .inl (k 6, 400, .inl (upd (upd (upd (upd q 12 (vp_nar .byte x_1)) 13 (vp_nar .byte x_2)) 14 (vp_nar .byte x_3)) 15 (vp_nar .byte x_4))))] H := hP
  have hD : va_D A [(h0, .inr (11, [.ref (v 0), .int 15, .int 0, .ref (v 3), .ref (v 4), .ref (v 5), .ref (v 6), .ref (v 7), .int 0, .int 0, .int 0, .int 0, .int 0, .int 0, .int 0, .ref (v 15), .int 0, .ref (v 17), .int 0, .ref (v 19), .ref (v 20), .int (-1), .int 0, .ref (v 23), .int (-1), .int (-1), .int (-1), .int 0, .int (-1), .int 0, .ref (v 30), .int 0, .ref (v 32), .int 0, .int 0, .ref (v 35), .ref (v 36), .ref (v 37), .ref (v 38), .long 0, .ref (v 40), .ref (v 41), .ref (v 42), .ref (v 43)])), (v 0, .inl (k 6, 400, .inl (upd (upd (upd (upd q 12 (vp_nar .byte x_1)) 13 (vp_nar .byte x_2)) 14 (vp_nar .byte x_3)) 15 (vp_nar .byte x_4))))] := hD
  refine lv_aload_n hx hb dX11_four_20 rfl (lv_at hl 1 rfl) ?_
  refine lv_dup hx hb dX11_four_21 rfl ?_
  refine va_get (D := G) (ci := 11) (v := .int 15) (C := RX11) (T := TX11) (N := 44) hx hb hts j_m_four_12_11 hown hE.K hP 0 rfl rfl 1 (by decide) (hts (.fieldLink RX11 92 "GossamerGateModel" "taped" "I") (List.mem_cons_of_mem _ (List.mem_append_left _ (List.mem_of_getElem? (i := 1) rfl)))) (fun _ h9 => h9) rfl dX11_four_22 ?_
  refine lv_iconst (v := 1) hx hb dX11_four_25 (by decide) ?_
  refine lv_iadd hx hb dX11_four_26 ?_
  refine gz_ni (v := 16) (by decide) ?_
  refine va_put (D := G) (ci := 11) (v := .int 16) (ty := .int) (C := RX11) (T := TX11) (N := 44) hx hb hts j_m_four_12_11 tyX11 tyX11_ok nmX11 hown hE.K hP hD hS 0 rfl rfl 1 (by decide) (hts (.fieldLink RX11 92 "GossamerGateModel" "taped" "I") (List.mem_cons_of_mem _ (List.mem_append_left _ (List.mem_of_getElem? (i := 1) rfl)))) (fun _ h9 => h9) rfl (by decide +kernel) rfl rfl (Nat.le_of_ble_eq_true rfl) dX11_four_27 (fun H locs hP hD hS => ?_)
  have hP : va_P G vwCl [(h0, .inr (11, [.ref (v 0), .int 16, .int 0, .ref (v 3), .ref (v 4), .ref (v 5), .ref (v 6), .ref (v 7), .int 0, .int 0, .int 0, .int 0, .int 0, .int 0, .int 0, .ref (v 15), .int 0, .ref (v 17), .int 0, .ref (v 19), .ref (v 20), .int (-1), .int 0, .ref (v 23), .int (-1), .int (-1), .int (-1), .int 0, .int (-1), .int 0, .ref (v 30), .int 0, .ref (v 32), .int 0, .int 0, .ref (v 35), .ref (v 36), .ref (v 37), .ref (v 38), .long 0, .ref (v 40), .ref (v 41), .ref (v 42), .ref (v 43)])), (v 0, .inl (k 6, 400, .inl (upd (upd (upd (upd q 12 (vp_nar .byte x_1)) 13 (vp_nar .byte x_2)) 14 (vp_nar .byte x_3)) 15 (vp_nar .byte x_4))))] H := hP
  have hD : va_D A [(h0, .inr (11, [.ref (v 0), .int 16, .int 0, .ref (v 3), .ref (v 4), .ref (v 5), .ref (v 6), .ref (v 7), .int 0, .int 0, .int 0, .int 0, .int 0, .int 0, .int 0, .ref (v 15), .int 0, .ref (v 17), .int 0, .ref (v 19), .ref (v 20), .int (-1), .int 0, .ref (v 23), .int (-1), .int (-1), .int (-1), .int 0, .int (-1), .int 0, .ref (v 30), .int 0, .ref (v 32), .int 0, .int 0, .ref (v 35), .ref (v 36), .ref (v 37), .ref (v 38), .long 0, .ref (v 40), .ref (v 41), .ref (v 42), .ref (v 43)])), (v 0, .inl (k 6, 400, .inl (upd (upd (upd (upd q 12 (vp_nar .byte x_1)) 13 (vp_nar .byte x_2)) 14 (vp_nar .byte x_3)) 15 (vp_nar .byte x_4))))] := hD
  refine lv_iinc (v := (-8)) (lv' := [(2, .int (-8)), (0, .ref h0), (1, .int a)]) hx hb dX11_four_30 hl (k := 0) rfl (by decide) (by decide) rfl (fun ls hl => ?_)
  refine lv_goto (tgt := 3) hx hb dX11_four_33 (by decide) ?_
  refine lv_iload_n hx hb dX11_four_3 rfl (lv_at hl 0 rfl) ?_
  refine lv_if_lt (tgt := 36) hx hb dX11_four_4 (by decide) (fun _ => ?_) (fun h9 => absurd h9 (by decide))
  have hP9 := hP.sub (ws' := [(h0, .inr (11, [.ref (v 0), .int 16, .int 0, .ref (v 3), .ref (v 4), .ref (v 5), .ref (v 6), .ref (v 7), .int 0, .int 0, .int 0, .int 0, .int 0, .int 0, .int 0, .ref (v 15), .int 0, .ref (v 17), .int 0, .ref (v 19), .ref (v 20), .int (-1), .int 0, .ref (v 23), .int (-1), .int (-1), .int (-1), .int 0, .int (-1), .int 0, .ref (v 30), .int 0, .ref (v 32), .int 0, .int 0, .ref (v 35), .ref (v 36), .ref (v 37), .ref (v 38), .long 0, .ref (v 40), .ref (v 41), .ref (v 42), .ref (v 43)])), (v 0, .inl (k 6, 400, .inl (upd (upd (upd (upd q 12 (vp_nar .byte x_1)) 13 (vp_nar .byte x_2)) 14 (vp_nar .byte x_3)) 15 (vp_nar .byte x_4))))]) [0, 1] rfl
  have hD9 := hD.sub (ws' := [(h0, .inr (11, [.ref (v 0), .int 16, .int 0, .ref (v 3), .ref (v 4), .ref (v 5), .ref (v 6), .ref (v 7), .int 0, .int 0, .int 0, .int 0, .int 0, .int 0, .int 0, .ref (v 15), .int 0, .ref (v 17), .int 0, .ref (v 19), .ref (v 20), .int (-1), .int 0, .ref (v 23), .int (-1), .int (-1), .int (-1), .int 0, .int (-1), .int 0, .ref (v 30), .int 0, .ref (v 32), .int 0, .int 0, .ref (v 35), .ref (v 36), .ref (v 37), .ref (v 38), .long 0, .ref (v 40), .ref (v 41), .ref (v 42), .ref (v 43)])), (v 0, .inl (k 6, 400, .inl (upd (upd (upd (upd q 12 (vp_nar .byte x_1)) 13 (vp_nar .byte x_2)) 14 (vp_nar .byte x_3)) 15 (vp_nar .byte x_4))))]) [0, 1] (by decide) rfl
  exact W.vret hx hb hr (fun t ht hW => ⟨⟨upd (upd (upd (upd q 12 (vp_nar .byte x_1)) 13 (vp_nar .byte x_2)) 14 (vp_nar .byte x_3)) 15 (vp_nar .byte x_4), rfl, trivial, by rw [ht]; exact hP9, hD9⟩, hS.F ht⟩) hS.2.2 dX11_four_36
set_option maxHeartbeats 4000000 in
set_option maxRecDepth 100000 in
theorem m_four_16 (l : Launch) (G : va_G) (k : Nat → ClassId) (sa : Nat → Nat) (sz : Nat) (h0 : Nat) (v : Nat → Nat) (a : Int32) (q : Nat → Int32) : Met l yX11_four vs_m_four_16 ({ frames := 0, cells := 0, slots := 0, locals := 0 } : Room) (gP G k sa [.ref h0, .int a] [(h0, .inr (11, [.ref (v 0), .int 16, .int 0, .ref (v 3), .ref (v 4), .ref (v 5), .ref (v 6), .ref (v 7), .int 0, .int 0, .int 0, .int 0, .int 0, .int 0, .int 0, .ref (v 15), .int 0, .ref (v 17), .int 0, .ref (v 19), .ref (v 20), .int (-1), .int 0, .ref (v 23), .int (-1), .int (-1), .int (-1), .int 0, .int (-1), .int 0, .ref (v 30), .int 0, .ref (v 32), .int 0, .int 0, .ref (v 35), .ref (v 36), .ref (v 37), .ref (v 38), .long 0, .ref (v 40), .ref (v 41), .ref (v 42), .ref (v 43)])), (v 0, .inl (k 6, 400, .inl q))] sz) (va_Qv (fun _ : Nat → Int32 => True) (gO G (va_A ([(h0, .inr (11, [.ref (v 0), .int 16, .int 0, .ref (v 3), .ref (v 4), .ref (v 5), .ref (v 6), .ref (v 7), .int 0, .int 0, .int 0, .int 0, .int 0, .int 0, .int 0, .ref (v 15), .int 0, .ref (v 17), .int 0, .ref (v 19), .ref (v 20), .int (-1), .int 0, .ref (v 23), .int (-1), .int (-1), .int (-1), .int 0, .int (-1), .int 0, .ref (v 30), .int 0, .ref (v 32), .int 0, .int 0, .ref (v 35), .ref (v 36), .ref (v 37), .ref (v 38), .long 0, .ref (v 40), .ref (v 41), .ref (v 42), .ref (v 43)])), (v 0, .inl (k 6, 400, .inl q))]) sz) (fun u => [(h0, .inr (11, [.ref (v 0), .int 20, .int 0, .ref (v 3), .ref (v 4), .ref (v 5), .ref (v 6), .ref (v 7), .int 0, .int 0, .int 0, .int 0, .int 0, .int 0, .int 0, .ref (v 15), .int 0, .ref (v 17), .int 0, .ref (v 19), .ref (v 20), .int (-1), .int 0, .ref (v 23), .int (-1), .int (-1), .int (-1), .int 0, .int (-1), .int 0, .ref (v 30), .int 0, .ref (v 32), .int 0, .int 0, .ref (v 35), .ref (v 36), .ref (v 37), .ref (v 38), .long 0, .ref (v 40), .ref (v 41), .ref (v 42), .ref (v 43)])), (v 0, .inl (k 6, 400, .inl u))])) (va_A ([(h0, .inr (11, [.ref (v 0), .int 16, .int 0, .ref (v 3), .ref (v 4), .ref (v 5), .ref (v 6), .ref (v 7), .int 0, .int 0, .int 0, .int 0, .int 0, .int 0, .int 0, .ref (v 15), .int 0, .ref (v 17), .int 0, .ref (v 19), .ref (v 20), .int (-1), .int 0, .ref (v 23), .int (-1), .int (-1), .int (-1), .int 0, .int (-1), .int 0, .ref (v 30), .int 0, .ref (v 32), .int 0, .int 0, .ref (v 35), .ref (v 36), .ref (v 37), .ref (v 38), .long 0, .ref (v 40), .ref (v 41), .ref (v 42), .ref (v 43)])), (v 0, .inl (k 6, 400, .inl q))]) sz)) 0 0 (va_A ([(h0, .inr (11, [.ref (v 0), .int 16, .int 0, .ref (v 3), .ref (v 4), .ref (v 5), .ref (v 6), .ref (v 7), .int 0, .int 0, .int 0, .int 0, .int 0, .int 0, .int 0, .ref (v 15), .int 0, .ref (v 17), .int 0, .ref (v 19), .ref (v 20), .int (-1), .int 0, .ref (v 23), .int (-1), .int (-1), .int (-1), .int 0, .int (-1), .int 0, .ref (v 30), .int 0, .ref (v 32), .int 0, .int 0, .ref (v 35), .ref (v 36), .ref (v 37), .ref (v 38), .long 0, .ref (v 40), .ref (v 41), .ref (v 42), .ref (v 43)])), (v 0, .inl (k 6, 400, .inl q))]) sz) := by
  refine gz_met (cc := cX11_four) (maxL := 3) (ret := none) (by decide) rfl (Nat.le_of_ble_eq_true rfl) ?_
  intro p_ e_ s_ m below_ meth_ c_ ls hx hb hr hml hts hown hlocks hin hP hE hD hA hS
  generalize hAe : va_A ([(h0, .inr (11, [.ref (v 0), .int 16, .int 0, .ref (v 3), .ref (v 4), .ref (v 5), .ref (v 6), .ref (v 7), .int 0, .int 0, .int 0, .int 0, .int 0, .int 0, .int 0, .ref (v 15), .int 0, .ref (v 17), .int 0, .ref (v 19), .ref (v 20), .int (-1), .int 0, .ref (v 23), .int (-1), .int (-1), .int (-1), .int 0, .int (-1), .int 0, .ref (v 30), .int 0, .ref (v 32), .int 0, .int 0, .ref (v 35), .ref (v 36), .ref (v 37), .ref (v 38), .long 0, .ref (v 40), .ref (v 41), .ref (v 42), .ref (v 43)])), (v 0, .inl (k 6, 400, .inl q))]) sz = A at hD hA hS ⊢
  intro hl
  have hl : lv_has ls 3 [(0, .ref h0), (1, .int a)] := hl
  refine lv_bipush (v := 24) hx hb dX11_four_0 (by decide) ?_
  refine lv_istore_n (lv' := [(2, .int 24), (0, .ref h0), (1, .int a)]) hx hb dX11_four_2 rfl hl (by decide) rfl (fun ls hl => ?_)
  refine lv_iload_n hx hb dX11_four_3 rfl (lv_at hl 0 rfl) ?_
  refine lv_if_lt (tgt := 36) hx hb dX11_four_4 (by decide) (fun h9 => absurd h9 (by decide)) (fun _ => ?_)
  refine lv_aload_n hx hb dX11_four_7 rfl (lv_at hl 1 rfl) ?_
  refine va_get (D := G) (ci := 11) (v := .ref (v 0)) (C := RX11) (T := TX11) (N := 44) hx hb hts j_m_four_16_11 hown hE.K hP 0 rfl rfl 0 (by decide) (hts (.fieldLink RX11 7 "GossamerGateModel" "tape" "[B") (List.mem_cons_of_mem _ (List.mem_append_left _ (List.mem_of_getElem? (i := 0) rfl)))) (fun _ h9 => h9) rfl dX11_four_8 ?_
  refine lv_aload_n hx hb dX11_four_11 rfl (lv_at hl 1 rfl) ?_
  refine va_get (D := G) (ci := 11) (v := .int 16) (C := RX11) (T := TX11) (N := 44) hx hb hts j_m_four_16_11 hown hE.K hP 0 rfl rfl 1 (by decide) (hts (.fieldLink RX11 92 "GossamerGateModel" "taped" "I") (List.mem_cons_of_mem _ (List.mem_append_left _ (List.mem_of_getElem? (i := 1) rfl)))) (fun _ h9 => h9) rfl dX11_four_12 ?_
  refine lv_iload_n hx hb dX11_four_15 rfl (lv_at hl 2 rfl) ?_
  refine lv_iload_n hx hb dX11_four_16 rfl (lv_at hl 0 rfl) ?_
  refine lv_ishr hx hb dX11_four_17 ?_
  obtain ⟨x_1, ex_1⟩ : ∃ y : Int32, y = ((a >>> (24 &&& 31))).toInt8.toInt32 := ⟨_, rfl⟩
  refine lv_i2b (v := x_1) hx hb dX11_four_18 ex_1.symm ?_
  refine va_bast hx hb hE.K hP hD hS 1 6 rfl rfl (gz_in (by decide)) dX11_four_19 (fun H locs hP hD hS => ?_)
  have hP : va_P G vwCl [(h0, .inr (11, [.ref (v 0), .int 16, .int 0, .ref (v 3), .ref (v 4), .ref (v 5), .ref (v 6), .ref (v 7), .int 0, .int 0, .int 0, .int 0, .int 0, .int 0, .int 0, .ref (v 15), .int 0, .ref (v 17), .int 0, .ref (v 19), .ref (v 20), .int (-1), .int 0, .ref (v 23), .int (-1), .int (-1), .int (-1), .int 0, .int (-1), .int 0, .ref (v 30), .int 0, .ref (v 32), .int 0, .int 0, .ref (v 35), .ref (v 36), .ref (v 37), .ref (v 38), .long 0, .ref (v 40), .ref (v 41), .ref (v 42), .ref (v 43)])), (v 0, .inl (k 6, 400, .inl (upd q 16 (vp_nar .byte x_1))))] H := hP
  have hD : va_D A [(h0, .inr (11, [.ref (v 0), .int 16, .int 0, .ref (v 3), .ref (v 4), .ref (v 5), .ref (v 6), .ref (v 7), .int 0, .int 0, .int 0, .int 0, .int 0, .int 0, .int 0, .ref (v 15), .int 0, .ref (v 17), .int 0, .ref (v 19), .ref (v 20), .int (-1), .int 0, .ref (v 23), .int (-1), .int (-1), .int (-1), .int 0, .int (-1), .int 0, .ref (v 30), .int 0, .ref (v 32), .int 0, .int 0, .ref (v 35), .ref (v 36), .ref (v 37), .ref (v 38), .long 0, .ref (v 40), .ref (v 41), .ref (v 42), .ref (v 43)])), (v 0, .inl (k 6, 400, .inl (upd q 16 (vp_nar .byte x_1))))] := hD
  refine lv_aload_n hx hb dX11_four_20 rfl (lv_at hl 1 rfl) ?_
  refine lv_dup hx hb dX11_four_21 rfl ?_
  refine va_get (D := G) (ci := 11) (v := .int 16) (C := RX11) (T := TX11) (N := 44) hx hb hts j_m_four_16_11 hown hE.K hP 0 rfl rfl 1 (by decide) (hts (.fieldLink RX11 92 "GossamerGateModel" "taped" "I") (List.mem_cons_of_mem _ (List.mem_append_left _ (List.mem_of_getElem? (i := 1) rfl)))) (fun _ h9 => h9) rfl dX11_four_22 ?_
  refine lv_iconst (v := 1) hx hb dX11_four_25 (by decide) ?_
  refine lv_iadd hx hb dX11_four_26 ?_
  refine gz_ni (v := 17) (by decide) ?_
  refine va_put (D := G) (ci := 11) (v := .int 17) (ty := .int) (C := RX11) (T := TX11) (N := 44) hx hb hts j_m_four_16_11 tyX11 tyX11_ok nmX11 hown hE.K hP hD hS 0 rfl rfl 1 (by decide) (hts (.fieldLink RX11 92 "GossamerGateModel" "taped" "I") (List.mem_cons_of_mem _ (List.mem_append_left _ (List.mem_of_getElem? (i := 1) rfl)))) (fun _ h9 => h9) rfl (by decide +kernel) rfl rfl (Nat.le_of_ble_eq_true rfl) dX11_four_27 (fun H locs hP hD hS => ?_)
  have hP : va_P G vwCl [(h0, .inr (11, [.ref (v 0), .int 17, .int 0, .ref (v 3), .ref (v 4), .ref (v 5), .ref (v 6), .ref (v 7), .int 0, .int 0, .int 0, .int 0, .int 0, .int 0, .int 0, .ref (v 15), .int 0, .ref (v 17), .int 0, .ref (v 19), .ref (v 20), .int (-1), .int 0, .ref (v 23), .int (-1), .int (-1), .int (-1), .int 0, .int (-1), .int 0, .ref (v 30), .int 0, .ref (v 32), .int 0, .int 0, .ref (v 35), .ref (v 36), .ref (v 37), .ref (v 38), .long 0, .ref (v 40), .ref (v 41), .ref (v 42), .ref (v 43)])), (v 0, .inl (k 6, 400, .inl (upd q 16 (vp_nar .byte x_1))))] H := hP
  have hD : va_D A [(h0, .inr (11, [.ref (v 0), .int 17, .int 0, .ref (v 3), .ref (v 4), .ref (v 5), .ref (v 6), .ref (v 7), .int 0, .int 0, .int 0, .int 0, .int 0, .int 0, .int 0, .ref (v 15), .int 0, .ref (v 17), .int 0, .ref (v 19), .ref (v 20), .int (-1), .int 0, .ref (v 23), .int (-1), .int (-1), .int (-1), .int 0, .int (-1), .int 0, .ref (v 30), .int 0, .ref (v 32), .int 0, .int 0, .ref (v 35), .ref (v 36), .ref (v 37), .ref (v 38), .long 0, .ref (v 40), .ref (v 41), .ref (v 42), .ref (v 43)])), (v 0, .inl (k 6, 400, .inl (upd q 16 (vp_nar .byte x_1))))] := hD
  refine lv_iinc (v := 16) (lv' := [(2, .int 16), (0, .ref h0), (1, .int a)]) hx hb dX11_four_30 hl (k := 0) rfl (by decide) (by decide) rfl (fun ls hl => ?_)
  refine lv_goto (tgt := 3) hx hb dX11_four_33 (by decide) ?_
  refine lv_iload_n hx hb dX11_four_3 rfl (lv_at hl 0 rfl) ?_
  refine lv_if_lt (tgt := 36) hx hb dX11_four_4 (by decide) (fun h9 => absurd h9 (by decide)) (fun _ => ?_)
  refine lv_aload_n hx hb dX11_four_7 rfl (lv_at hl 1 rfl) ?_
  refine va_get (D := G) (ci := 11) (v := .ref (v 0)) (C := RX11) (T := TX11) (N := 44) hx hb hts j_m_four_16_11 hown hE.K hP 0 rfl rfl 0 (by decide) (hts (.fieldLink RX11 7 "GossamerGateModel" "tape" "[B") (List.mem_cons_of_mem _ (List.mem_append_left _ (List.mem_of_getElem? (i := 0) rfl)))) (fun _ h9 => h9) rfl dX11_four_8 ?_
  refine lv_aload_n hx hb dX11_four_11 rfl (lv_at hl 1 rfl) ?_
  refine va_get (D := G) (ci := 11) (v := .int 17) (C := RX11) (T := TX11) (N := 44) hx hb hts j_m_four_16_11 hown hE.K hP 0 rfl rfl 1 (by decide) (hts (.fieldLink RX11 92 "GossamerGateModel" "taped" "I") (List.mem_cons_of_mem _ (List.mem_append_left _ (List.mem_of_getElem? (i := 1) rfl)))) (fun _ h9 => h9) rfl dX11_four_12 ?_
  refine lv_iload_n hx hb dX11_four_15 rfl (lv_at hl 2 rfl) ?_
  refine lv_iload_n hx hb dX11_four_16 rfl (lv_at hl 0 rfl) ?_
  refine lv_ishr hx hb dX11_four_17 ?_
  obtain ⟨x_2, ex_2⟩ : ∃ y : Int32, y = ((a >>> (16 &&& 31))).toInt8.toInt32 := ⟨_, rfl⟩
  refine lv_i2b (v := x_2) hx hb dX11_four_18 ex_2.symm ?_
  refine va_bast hx hb hE.K hP hD hS 1 6 rfl rfl (gz_in (by decide)) dX11_four_19 (fun H locs hP hD hS => ?_)
  have hP : va_P G vwCl [(h0, .inr (11, [.ref (v 0), .int 17, .int 0, .ref (v 3), .ref (v 4), .ref (v 5), .ref (v 6), .ref (v 7), .int 0, .int 0, .int 0, .int 0, .int 0, .int 0, .int 0, .ref (v 15), .int 0, .ref (v 17), .int 0, .ref (v 19), .ref (v 20), .int (-1), .int 0, .ref (v 23), .int (-1), .int (-1), .int (-1), .int 0, .int (-1), .int 0, .ref (v 30), .int 0, .ref (v 32), .int 0, .int 0, .ref (v 35), .ref (v 36), .ref (v 37), .ref (v 38), .long 0, .ref (v 40), .ref (v 41), .ref (v 42), .ref (v 43)])), (v 0, .inl (k 6, 400, .inl (upd (upd q 16 (vp_nar .byte x_1)) 17 (vp_nar .byte x_2))))] H := hP
  have hD : va_D A [(h0, .inr (11, [.ref (v 0), .int 17, .int 0, .ref (v 3), .ref (v 4), .ref (v 5), .ref (v 6), .ref (v 7), .int 0, .int 0, .int 0, .int 0, .int 0, .int 0, .int 0, .ref (v 15), .int 0, .ref (v 17), .int 0, .ref (v 19), .ref (v 20), .int (-1), .int 0, .ref (v 23), .int (-1), .int (-1), .int (-1), .int 0, .int (-1), .int 0, .ref (v 30), .int 0, .ref (v 32), .int 0, .int 0, .ref (v 35), .ref (v 36), .ref (v 37), .ref (v 38), .long 0, .ref (v 40), .ref (v 41), .ref (v 42), .ref (v 43)])), (v 0, .inl (k 6, 400, .inl (upd (upd q 16 (vp_nar .byte x_1)) 17 (vp_nar .byte x_2))))] := hD
  refine lv_aload_n hx hb dX11_four_20 rfl (lv_at hl 1 rfl) ?_
  refine lv_dup hx hb dX11_four_21 rfl ?_
  refine va_get (D := G) (ci := 11) (v := .int 17) (C := RX11) (T := TX11) (N := 44) hx hb hts j_m_four_16_11 hown hE.K hP 0 rfl rfl 1 (by decide) (hts (.fieldLink RX11 92 "GossamerGateModel" "taped" "I") (List.mem_cons_of_mem _ (List.mem_append_left _ (List.mem_of_getElem? (i := 1) rfl)))) (fun _ h9 => h9) rfl dX11_four_22 ?_
  refine lv_iconst (v := 1) hx hb dX11_four_25 (by decide) ?_
  refine lv_iadd hx hb dX11_four_26 ?_
  refine gz_ni (v := 18) (by decide) ?_
  refine va_put (D := G) (ci := 11) (v := .int 18) (ty := .int) (C := RX11) (T := TX11) (N := 44) hx hb hts j_m_four_16_11 tyX11 tyX11_ok nmX11 hown hE.K hP hD hS 0 rfl rfl 1 (by decide) (hts (.fieldLink RX11 92 "GossamerGateModel" "taped" "I") (List.mem_cons_of_mem _ (List.mem_append_left _ (List.mem_of_getElem? (i := 1) rfl)))) (fun _ h9 => h9) rfl (by decide +kernel) rfl rfl (Nat.le_of_ble_eq_true rfl) dX11_four_27 (fun H locs hP hD hS => ?_)
  have hP : va_P G vwCl [(h0, .inr (11, [.ref (v 0), .int 18, .int 0, .ref (v 3), .ref (v 4), .ref (v 5), .ref (v 6), .ref (v 7), .int 0, .int 0, .int 0, .int 0, .int 0, .int 0, .int 0, .ref (v 15), .int 0, .ref (v 17), .int 0, .ref (v 19), .ref (v 20), .int (-1), .int 0, .ref (v 23), .int (-1), .int (-1), .int (-1), .int 0, .int (-1), .int 0, .ref (v 30), .int 0, .ref (v 32), .int 0, .int 0, .ref (v 35), .ref (v 36), .ref (v 37), .ref (v 38), .long 0, .ref (v 40), .ref (v 41), .ref (v 42), .ref (v 43)])), (v 0, .inl (k 6, 400, .inl (upd (upd q 16 (vp_nar .byte x_1)) 17 (vp_nar .byte x_2))))] H := hP
  have hD : va_D A [(h0, .inr (11, [.ref (v 0), .int 18, .int 0, .ref (v 3), .ref (v 4), .ref (v 5), .ref (v 6), .ref (v 7), .int 0, .int 0, .int 0, .int 0, .int 0, .int 0, .int 0, .ref (v 15), .int 0, .ref (v 17), .int 0, .ref (v 19), .ref (v 20), .int (-1), .int 0, .ref (v 23), .int (-1), .int (-1), .int (-1), .int 0, .int (-1), .int 0, .ref (v 30), .int 0, .ref (v 32), .int 0, .int 0, .ref (v 35), .ref (v 36), .ref (v 37), .ref (v 38), .long 0, .ref (v 40), .ref (v 41), .ref (v 42), .ref (v 43)])), (v 0, .inl (k 6, 400, .inl (upd (upd q 16 (vp_nar .byte x_1)) 17 (vp_nar .byte x_2))))] := hD
  refine lv_iinc (v := 8) (lv' := [(2, .int 8), (0, .ref h0), (1, .int a)]) hx hb dX11_four_30 hl (k := 0) rfl (by decide) (by decide) rfl (fun ls hl => ?_)
  refine lv_goto (tgt := 3) hx hb dX11_four_33 (by decide) ?_
  refine lv_iload_n hx hb dX11_four_3 rfl (lv_at hl 0 rfl) ?_
  refine lv_if_lt (tgt := 36) hx hb dX11_four_4 (by decide) (fun h9 => absurd h9 (by decide)) (fun _ => ?_)
  refine lv_aload_n hx hb dX11_four_7 rfl (lv_at hl 1 rfl) ?_
  refine va_get (D := G) (ci := 11) (v := .ref (v 0)) (C := RX11) (T := TX11) (N := 44) hx hb hts j_m_four_16_11 hown hE.K hP 0 rfl rfl 0 (by decide) (hts (.fieldLink RX11 7 "GossamerGateModel" "tape" "[B") (List.mem_cons_of_mem _ (List.mem_append_left _ (List.mem_of_getElem? (i := 0) rfl)))) (fun _ h9 => h9) rfl dX11_four_8 ?_
  refine lv_aload_n hx hb dX11_four_11 rfl (lv_at hl 1 rfl) ?_
  refine va_get (D := G) (ci := 11) (v := .int 18) (C := RX11) (T := TX11) (N := 44) hx hb hts j_m_four_16_11 hown hE.K hP 0 rfl rfl 1 (by decide) (hts (.fieldLink RX11 92 "GossamerGateModel" "taped" "I") (List.mem_cons_of_mem _ (List.mem_append_left _ (List.mem_of_getElem? (i := 1) rfl)))) (fun _ h9 => h9) rfl dX11_four_12 ?_
  refine lv_iload_n hx hb dX11_four_15 rfl (lv_at hl 2 rfl) ?_
  refine lv_iload_n hx hb dX11_four_16 rfl (lv_at hl 0 rfl) ?_
  refine lv_ishr hx hb dX11_four_17 ?_
  obtain ⟨x_3, ex_3⟩ : ∃ y : Int32, y = ((a >>> (8 &&& 31))).toInt8.toInt32 := ⟨_, rfl⟩
  refine lv_i2b (v := x_3) hx hb dX11_four_18 ex_3.symm ?_
  refine va_bast hx hb hE.K hP hD hS 1 6 rfl rfl (gz_in (by decide)) dX11_four_19 (fun H locs hP hD hS => ?_)
  have hP : va_P G vwCl [(h0, .inr (11, [.ref (v 0), .int 18, .int 0, .ref (v 3), .ref (v 4), .ref (v 5), .ref (v 6), .ref (v 7), .int 0, .int 0, .int 0, .int 0, .int 0, .int 0, .int 0, .ref (v 15), .int 0, .ref (v 17), .int 0, .ref (v 19), .ref (v 20), .int (-1), .int 0, .ref (v 23), .int (-1), .int (-1), .int (-1), .int 0, .int (-1), .int 0, .ref (v 30), .int 0, .ref (v 32), .int 0, .int 0, .ref (v 35), .ref (v 36), .ref (v 37), .ref (v 38), .long 0, .ref (v 40), .ref (v 41), .ref (v 42), .ref (v 43)])), (v 0, .inl (k 6, 400, .inl (upd (upd (upd q 16 (vp_nar .byte x_1)) 17 (vp_nar .byte x_2)) 18 (vp_nar .byte x_3))))] H := hP
  have hD : va_D A [(h0, .inr (11, [.ref (v 0), .int 18, .int 0, .ref (v 3), .ref (v 4), .ref (v 5), .ref (v 6), .ref (v 7), .int 0, .int 0, .int 0, .int 0, .int 0, .int 0, .int 0, .ref (v 15), .int 0, .ref (v 17), .int 0, .ref (v 19), .ref (v 20), .int (-1), .int 0, .ref (v 23), .int (-1), .int (-1), .int (-1), .int 0, .int (-1), .int 0, .ref (v 30), .int 0, .ref (v 32), .int 0, .int 0, .ref (v 35), .ref (v 36), .ref (v 37), .ref (v 38), .long 0, .ref (v 40), .ref (v 41), .ref (v 42), .ref (v 43)])), (v 0, .inl (k 6, 400, .inl (upd (upd (upd q 16 (vp_nar .byte x_1)) 17 (vp_nar .byte x_2)) 18 (vp_nar .byte x_3))))] := hD
  refine lv_aload_n hx hb dX11_four_20 rfl (lv_at hl 1 rfl) ?_
  refine lv_dup hx hb dX11_four_21 rfl ?_
  refine va_get (D := G) (ci := 11) (v := .int 18) (C := RX11) (T := TX11) (N := 44) hx hb hts j_m_four_16_11 hown hE.K hP 0 rfl rfl 1 (by decide) (hts (.fieldLink RX11 92 "GossamerGateModel" "taped" "I") (List.mem_cons_of_mem _ (List.mem_append_left _ (List.mem_of_getElem? (i := 1) rfl)))) (fun _ h9 => h9) rfl dX11_four_22 ?_
  refine lv_iconst (v := 1) hx hb dX11_four_25 (by decide) ?_
  refine lv_iadd hx hb dX11_four_26 ?_
  refine gz_ni (v := 19) (by decide) ?_
  refine va_put (D := G) (ci := 11) (v := .int 19) (ty := .int) (C := RX11) (T := TX11) (N := 44) hx hb hts j_m_four_16_11 tyX11 tyX11_ok nmX11 hown hE.K hP hD hS 0 rfl rfl 1 (by decide) (hts (.fieldLink RX11 92 "GossamerGateModel" "taped" "I") (List.mem_cons_of_mem _ (List.mem_append_left _ (List.mem_of_getElem? (i := 1) rfl)))) (fun _ h9 => h9) rfl (by decide +kernel) rfl rfl (Nat.le_of_ble_eq_true rfl) dX11_four_27 (fun H locs hP hD hS => ?_)
  have hP : va_P G vwCl [(h0, .inr (11, [.ref (v 0), .int 19, .int 0, .ref (v 3), .ref (v 4), .ref (v 5), .ref (v 6), .ref (v 7), .int 0, .int 0, .int 0, .int 0, .int 0, .int 0, .int 0, .ref (v 15), .int 0, .ref (v 17), .int 0, .ref (v 19), .ref (v 20), .int (-1), .int 0, .ref (v 23), .int (-1), .int (-1), .int (-1), .int 0, .int (-1), .int 0, .ref (v 30), .int 0, .ref (v 32), .int 0, .int 0, .ref (v 35), .ref (v 36), .ref (v 37), .ref (v 38), .long 0, .ref (v 40), .ref (v 41), .ref (v 42), .ref (v 43)])), (v 0, .inl (k 6, 400, .inl (upd (upd (upd q 16 (vp_nar .byte x_1)) 17 (vp_nar .byte x_2)) 18 (vp_nar .byte x_3))))] H := hP
  have hD : va_D A [(h0, .inr (11, [.ref (v 0), .int 19, .int 0, .ref (v 3), .ref (v 4), .ref (v 5), .ref (v 6), .ref (v 7), .int 0, .int 0, .int 0, .int 0, .int 0, .int 0, .int 0, .ref (v 15), .int 0, .ref (v 17), .int 0, .ref (v 19), .ref (v 20), .int (-1), .int 0, .ref (v 23), .int (-1), .int (-1), .int (-1), .int 0, .int (-1), .int 0, .ref (v 30), .int 0, .ref (v 32), .int 0, .int 0, .ref (v 35), .ref (v 36), .ref (v 37), .ref (v 38), .long 0, .ref (v 40), .ref (v 41), .ref (v 42), .ref (v 43)])), (v 0, .inl (k 6, 400, .inl (upd (upd (upd q 16 (vp_nar .byte x_1)) 17 (vp_nar .byte x_2)) 18 (vp_nar .byte x_3))))] := hD
  refine lv_iinc (v := 0) (lv' := [(2, .int 0), (0, .ref h0), (1, .int a)]) hx hb dX11_four_30 hl (k := 0) rfl (by decide) (by decide) rfl (fun ls hl => ?_)
  refine lv_goto (tgt := 3) hx hb dX11_four_33 (by decide) ?_
  refine lv_iload_n hx hb dX11_four_3 rfl (lv_at hl 0 rfl) ?_
  refine lv_if_lt (tgt := 36) hx hb dX11_four_4 (by decide) (fun h9 => absurd h9 (by decide)) (fun _ => ?_)
  refine lv_aload_n hx hb dX11_four_7 rfl (lv_at hl 1 rfl) ?_
  refine va_get (D := G) (ci := 11) (v := .ref (v 0)) (C := RX11) (T := TX11) (N := 44) hx hb hts j_m_four_16_11 hown hE.K hP 0 rfl rfl 0 (by decide) (hts (.fieldLink RX11 7 "GossamerGateModel" "tape" "[B") (List.mem_cons_of_mem _ (List.mem_append_left _ (List.mem_of_getElem? (i := 0) rfl)))) (fun _ h9 => h9) rfl dX11_four_8 ?_
  refine lv_aload_n hx hb dX11_four_11 rfl (lv_at hl 1 rfl) ?_
  refine va_get (D := G) (ci := 11) (v := .int 19) (C := RX11) (T := TX11) (N := 44) hx hb hts j_m_four_16_11 hown hE.K hP 0 rfl rfl 1 (by decide) (hts (.fieldLink RX11 92 "GossamerGateModel" "taped" "I") (List.mem_cons_of_mem _ (List.mem_append_left _ (List.mem_of_getElem? (i := 1) rfl)))) (fun _ h9 => h9) rfl dX11_four_12 ?_
  refine lv_iload_n hx hb dX11_four_15 rfl (lv_at hl 2 rfl) ?_
  refine lv_iload_n hx hb dX11_four_16 rfl (lv_at hl 0 rfl) ?_
  refine lv_ishr hx hb dX11_four_17 ?_
  obtain ⟨x_4, ex_4⟩ : ∃ y : Int32, y = ((a >>> (0 &&& 31))).toInt8.toInt32 := ⟨_, rfl⟩
  refine lv_i2b (v := x_4) hx hb dX11_four_18 ex_4.symm ?_
  refine va_bast hx hb hE.K hP hD hS 1 6 rfl rfl (gz_in (by decide)) dX11_four_19 (fun H locs hP hD hS => ?_)
  have hP : va_P G vwCl [(h0, .inr (11, [.ref (v 0), .int 19, .int 0, .ref (v 3), .ref (v 4), .ref (v 5), .ref (v 6), .ref (v 7), .int 0, .int 0, .int 0, .int 0, .int 0, .int 0, .int 0, .ref (v 15), .int 0, .ref (v 17), .int 0, .ref (v 19), .ref (v 20), .int (-1), .int 0, .ref (v 23), .int (-1), .int (-1), .int (-1), .int 0, .int (-1), .int 0, .ref (v 30), .int 0, .ref (v 32), .int 0, .int 0, .ref (v 35), .ref (v 36), .ref (v 37), .ref (v 38), .long 0, .ref (v 40), .ref (v 41), .ref (v 42), .ref (v 43)])), (v 0, .inl (k 6, 400, .inl (upd (upd (upd (upd q 16 (vp_nar .byte x_1)) 17 (vp_nar .byte x_2)) 18 (vp_nar .byte x_3)) 19 (vp_nar .byte x_4))))] H := hP
  have hD : va_D A [(h0, .inr (11, [.ref (v 0), .int 19, .int 0, .ref (v 3), .ref (v 4), .ref (v 5), .ref (v 6), .ref (v 7), .int 0, .int 0, .int 0, .int 0, .int 0, .int 0, .int 0, .ref (v 15), .int 0, .ref (v 17), .int 0, .ref (v 19), .ref (v 20), .int (-1), .int 0, .ref (v 23), .int (-1), .int (-1), .int (-1), .int 0, .int (-1), .int 0, .ref (v 30), .int 0, .ref (v 32), .int 0, .int 0, .ref (v 35), .ref (v 36), .ref (v 37), .ref (v 38), .long 0, .ref (v 40), .ref (v 41), .ref (v 42), .ref (v 43)])), (v 0, .inl (k 6, 400, .inl (upd (upd (upd (upd q 16 (vp_nar .byte x_1)) 17 (vp_nar .byte x_2)) 18 (vp_nar .byte x_3)) 19 (vp_nar .byte x_4))))] := hD
  refine lv_aload_n hx hb dX11_four_20 rfl (lv_at hl 1 rfl) ?_
  refine lv_dup hx hb dX11_four_21 rfl ?_
  refine va_get (D := G) (ci := 11) (v := .int 19) (C := RX11) (T := TX11) (N := 44) hx hb hts j_m_four_16_11 hown hE.K hP 0 rfl rfl 1 (by decide) (hts (.fieldLink RX11 92 "GossamerGateModel" "taped" "I") (List.mem_cons_of_mem _ (List.mem_append_left _ (List.mem_of_getElem? (i := 1) rfl)))) (fun _ h9 => h9) rfl dX11_four_22 ?_
  refine lv_iconst (v := 1) hx hb dX11_four_25 (by decide) ?_
  refine lv_iadd hx hb dX11_four_26 ?_
  refine gz_ni (v := 20) (by decide) ?_
  refine va_put (D := G) (ci := 11) (v := .int 20) (ty := .int) (C := RX11) (T := TX11) (N := 44) hx hb hts j_m_four_16_11 tyX11 tyX11_ok nmX11 hown hE.K hP hD hS 0 rfl rfl 1 (by decide) (hts (.fieldLink RX11 92 "GossamerGateModel" "taped" "I") (List.mem_cons_of_mem _ (List.mem_append_left _ (List.mem_of_getElem? (i := 1) rfl)))) (fun _ h9 => h9) rfl (by decide +kernel) rfl rfl (Nat.le_of_ble_eq_true rfl) dX11_four_27 (fun H locs hP hD hS => ?_)
  have hP : va_P G vwCl [(h0, .inr (11, [.ref (v 0), .int 20, .int 0, .ref (v 3), .ref (v 4), .ref (v 5), .ref (v 6), .ref (v 7), .int 0, .int 0, .int 0, .int 0, .int 0, .int 0, .int 0, .ref (v 15), .int 0, .ref (v 17), .int 0, .ref (v 19), .ref (v 20), .int (-1), .int 0, .ref (v 23), .int (-1), .int (-1), .int (-1), .int 0, .int (-1), .int 0, .ref (v 30), .int 0, .ref (v 32), .int 0, .int 0, .ref (v 35), .ref (v 36), .ref (v 37), .ref (v 38), .long 0, .ref (v 40), .ref (v 41), .ref (v 42), .ref (v 43)])), (v 0, .inl (k 6, 400, .inl (upd (upd (upd (upd q 16 (vp_nar .byte x_1)) 17 (vp_nar .byte x_2)) 18 (vp_nar .byte x_3)) 19 (vp_nar .byte x_4))))] H := hP
  have hD : va_D A [(h0, .inr (11, [.ref (v 0), .int 20, .int 0, .ref (v 3), .ref (v 4), .ref (v 5), .ref (v 6), .ref (v 7), .int 0, .int 0, .int 0, .int 0, .int 0, .int 0, .int 0, .ref (v 15), .int 0, .ref (v 17), .int 0, .ref (v 19), .ref (v 20), .int (-1), .int 0, .ref (v 23), .int (-1), .int (-1), .int (-1), .int 0, .int (-1), .int 0, .ref (v 30), .int 0, .ref (v 32), .int 0, .int 0, .ref (v 35), .ref (v 36), .ref (v 37), .ref (v 38), .long 0, .ref (v 40), .ref (v 41), .ref (v 42), .ref (v 43)])), (v 0, .inl (k 6, 400, .inl (upd (upd (upd (upd q 16 (vp_nar .byte x_1)) 17 (vp_nar .byte x_2)) 18 (vp_nar .byte x_3)) 19 (vp_nar .byte x_4))))] := hD
  refine lv_iinc (v := (-8)) (lv' := [(2, .int (-8)), (0, .ref h0), (1, .int a)]) hx hb dX11_four_30 hl (k := 0) rfl (by decide) (by decide) rfl (fun ls hl => ?_)
  refine lv_goto (tgt := 3) hx hb dX11_four_33 (by decide) ?_
  refine lv_iload_n hx hb dX11_four_3 rfl (lv_at hl 0 rfl) ?_
  refine lv_if_lt (tgt := 36) hx hb dX11_four_4 (by decide) (fun _ => ?_) (fun h9 => absurd h9 (by decide))
  have hP9 := hP.sub (ws' := [(h0, .inr (11, [.ref (v 0), .int 20, .int 0, .ref (v 3), .ref (v 4), .ref (v 5), .ref (v 6), .ref (v 7), .int 0, .int 0, .int 0, .int 0, .int 0, .int 0, .int 0, .ref (v 15), .int 0, .ref (v 17), .int 0, .ref (v 19), .ref (v 20), .int (-1), .int 0, .ref (v 23), .int (-1), .int (-1), .int (-1), .int 0, .int (-1), .int 0, .ref (v 30), .int 0, .ref (v 32), .int 0, .int 0, .ref (v 35), .ref (v 36), .ref (v 37), .ref (v 38), .long 0, .ref (v 40), .ref (v 41), .ref (v 42), .ref (v 43)])), (v 0, .inl (k 6, 400, .inl (upd (upd (upd (upd q 16 (vp_nar .byte x_1)) 17 (vp_nar .byte x_2)) 18 (vp_nar .byte x_3)) 19 (vp_nar .byte x_4))))]) [0, 1] rfl
  have hD9 := hD.sub (ws' := [(h0, .inr (11, [.ref (v 0), .int 20, .int 0, .ref (v 3), .ref (v 4), .ref (v 5), .ref (v 6), .ref (v 7), .int 0, .int 0, .int 0, .int 0, .int 0, .int 0, .int 0, .ref (v 15), .int 0, .ref (v 17), .int 0, .ref (v 19), .ref (v 20), .int (-1), .int 0, .ref (v 23), .int (-1), .int (-1), .int (-1), .int 0, .int (-1), .int 0, .ref (v 30), .int 0, .ref (v 32), .int 0, .int 0, .ref (v 35), .ref (v 36), .ref (v 37), .ref (v 38), .long 0, .ref (v 40), .ref (v 41), .ref (v 42), .ref (v 43)])), (v 0, .inl (k 6, 400, .inl (upd (upd (upd (upd q 16 (vp_nar .byte x_1)) 17 (vp_nar .byte x_2)) 18 (vp_nar .byte x_3)) 19 (vp_nar .byte x_4))))]) [0, 1] (by decide) rfl
  exact W.vret hx hb hr (fun t ht hW => ⟨⟨upd (upd (upd (upd q 16 (vp_nar .byte x_1)) 17 (vp_nar .byte x_2)) 18 (vp_nar .byte x_3)) 19 (vp_nar .byte x_4), rfl, trivial, by rw [ht]; exact hP9, hD9⟩, hS.F ht⟩) hS.2.2 dX11_four_36
set_option maxHeartbeats 4000000 in
set_option maxRecDepth 100000 in
theorem m_feed (l : Launch) (G : va_G) (k : Nat → ClassId) (sa : Nat → Nat) (sz : Nat) (h0 : Nat) (v : Nat → Nat) (a : Int32) (b : Int32) (c1 : Int32) (d1 : Int32) (e1 : Int32) : Met l yX11_feed vs_m_feed ({ frames := 1, cells := 0, slots := 0, locals := 22 } : Room) (gP G k sa [.ref h0, .int a, .int b, .int c1, .int d1, .int e1] [(h0, .inr (11, [.ref (v 0), .int 0, .int 0, .ref (v 3), .ref (v 4), .ref (v 5), .ref (v 6), .ref (v 7), .int 0, .int 0, .int 0, .int 0, .int 0, .int 0, .int 0, .ref (v 15), .int 0, .ref (v 17), .int 0, .ref (v 19), .ref (v 20), .int (-1), .int 0, .ref (v 23), .int (-1), .int (-1), .int (-1), .int 0, .int (-1), .int 0, .ref (v 30), .int 0, .ref (v 32), .int 0, .int 0, .ref (v 35), .ref (v 36), .ref (v 37), .ref (v 38), .long 0, .ref (v 40), .ref (v 41), .ref (v 42), .ref (v 43)])), (v 0, .inl (k 6, 400, .inl (fun _ => 0)))] sz) (va_Qi (fun r (_ : Nat → Nat) => r = 20) (gO G (va_A ([(h0, .inr (11, [.ref (v 0), .int 0, .int 0, .ref (v 3), .ref (v 4), .ref (v 5), .ref (v 6), .ref (v 7), .int 0, .int 0, .int 0, .int 0, .int 0, .int 0, .int 0, .ref (v 15), .int 0, .ref (v 17), .int 0, .ref (v 19), .ref (v 20), .int (-1), .int 0, .ref (v 23), .int (-1), .int (-1), .int (-1), .int 0, .int (-1), .int 0, .ref (v 30), .int 0, .ref (v 32), .int 0, .int 0, .ref (v 35), .ref (v 36), .ref (v 37), .ref (v 38), .long 0, .ref (v 40), .ref (v 41), .ref (v 42), .ref (v 43)])), (v 0, .inl (k 6, 400, .inl (fun _ => 0)))]) sz) (fun _ => [])) (va_A ([(h0, .inr (11, [.ref (v 0), .int 0, .int 0, .ref (v 3), .ref (v 4), .ref (v 5), .ref (v 6), .ref (v 7), .int 0, .int 0, .int 0, .int 0, .int 0, .int 0, .int 0, .ref (v 15), .int 0, .ref (v 17), .int 0, .ref (v 19), .ref (v 20), .int (-1), .int 0, .ref (v 23), .int (-1), .int (-1), .int (-1), .int 0, .int (-1), .int 0, .ref (v 30), .int 0, .ref (v 32), .int 0, .int 0, .ref (v 35), .ref (v 36), .ref (v 37), .ref (v 38), .long 0, .ref (v 40), .ref (v 41), .ref (v 42), .ref (v 43)])), (v 0, .inl (k 6, 400, .inl (fun _ => 0)))]) sz)) 0 0 (va_A ([(h0, .inr (11, [.ref (v 0), .int 0, .int 0, .ref (v 3), .ref (v 4), .ref (v 5), .ref (v 6), .ref (v 7), .int 0, .int 0, .int 0, .int 0, .int 0, .int 0, .int 0, .ref (v 15), .int 0, .ref (v 17), .int 0, .ref (v 19), .ref (v 20), .int (-1), .int 0, .ref (v 23), .int (-1), .int (-1), .int (-1), .int 0, .int (-1), .int 0, .ref (v 30), .int 0, .ref (v 32), .int 0, .int 0, .ref (v 35), .ref (v 36), .ref (v 37), .ref (v 38), .long 0, .ref (v 40), .ref (v 41), .ref (v 42), .ref (v 43)])), (v 0, .inl (k 6, 400, .inl (fun _ => 0)))]) sz) := by
  refine gz_met (cc := cX11_feed) (maxL := 6) (ret := (some .int)) (by decide) rfl (Nat.le_of_ble_eq_true rfl) ?_
  intro p_ e_ s_ m below_ meth_ c_ ls hx hb hr hml hts hown hlocks hin hP hE hD hA hS
  generalize hAe : va_A ([(h0, .inr (11, [.ref (v 0), .int 0, .int 0, .ref (v 3), .ref (v 4), .ref (v 5), .ref (v 6), .ref (v 7), .int 0, .int 0, .int 0, .int 0, .int 0, .int 0, .int 0, .ref (v 15), .int 0, .ref (v 17), .int 0, .ref (v 19), .ref (v 20), .int (-1), .int 0, .ref (v 23), .int (-1), .int (-1), .int (-1), .int 0, .int (-1), .int 0, .ref (v 30), .int 0, .ref (v 32), .int 0, .int 0, .ref (v 35), .ref (v 36), .ref (v 37), .ref (v 38), .long 0, .ref (v 40), .ref (v 41), .ref (v 42), .ref (v 43)])), (v 0, .inl (k 6, 400, .inl (fun _ => 0)))]) sz = A at hD hA hS ⊢
  intro hl
  have hl : lv_has ls 6 [(0, .ref h0), (1, .int a), (2, .int b), (3, .int c1), (4, .int d1), (5, .int e1)] := hl
  refine lv_aload_n hx hb dX11_feed_0 rfl (lv_at hl 0 rfl) ?_
  refine va_get (D := G) (ci := 11) (v := .int 0) (C := RX11) (T := TX11) (N := 44) hx hb hts j_m_feed_11 hown hE.K hP 0 rfl rfl 1 (by decide) (hts (.fieldLink RX11 92 "GossamerGateModel" "taped" "I") (List.mem_cons_of_mem _ (List.mem_append_left _ (List.mem_of_getElem? (i := 0) rfl)))) (fun _ h9 => h9) rfl dX11_feed_1 ?_
  refine lv_bipush (v := 20) hx hb dX11_feed_4 (by decide) ?_
  refine lv_iadd hx hb dX11_feed_6 ?_
  refine gz_ni (v := 20) (by decide) ?_
  refine lv_sipush (v := 400) hx hb dX11_feed_7 (by decide) ?_
  refine lv_icmp_le (tgt := 15) hx hb dX11_feed_10 (by decide) (fun _ => ?_) (fun h9 => absurd h9 (by decide))
  refine lv_aload_n hx hb dX11_feed_15 rfl (lv_at hl 0 rfl) ?_
  refine lv_iload_n hx hb dX11_feed_16 rfl (lv_at hl 1 rfl) ?_
  refine gz_v (wc := [(h0, .inr (11, [.ref (v 0), .int 0, .int 0, .ref (v 3), .ref (v 4), .ref (v 5), .ref (v 6), .ref (v 7), .int 0, .int 0, .int 0, .int 0, .int 0, .int 0, .int 0, .ref (v 15), .int 0, .ref (v 17), .int 0, .ref (v 19), .ref (v 20), .int (-1), .int 0, .ref (v 23), .int (-1), .int (-1), .int (-1), .int 0, .int (-1), .int 0, .ref (v 30), .int 0, .ref (v 32), .int 0, .int 0, .ref (v 35), .ref (v 36), .ref (v 37), .ref (v 38), .long 0, .ref (v 40), .ref (v 41), .ref (v 42), .ref (v 43)])), (v 0, .inl (k 6, 400, .inl (fun _ => 0)))]) (wr := []) hP hD hS hA [0, 1] [] rfl rfl (by decide) (by decide) (va_runV (As := [.int a]) (rest := []) ⟨hx, hb, hml, hown, hts⟩ (m_four_0 l G k sa _ h0 v a (fun _ => 0)) (cwV 1 hts g_m_feed_95_m_four_0 rfl rfl rfl (by decide +kernel) ⟨(Nat.le_of_ble_eq_true rfl), (Nat.le_of_ble_eq_true rfl)⟩) ⟨gP.bl, va_recv hE.K hP (ci := 11) (q0 := 0) rfl rfl, (gP.pre (wc := [(h0, .inr (11, [.ref (v 0), .int 0, .int 0, .ref (v 3), .ref (v 4), .ref (v 5), .ref (v 6), .ref (v 7), .int 0, .int 0, .int 0, .int 0, .int 0, .int 0, .int 0, .ref (v 15), .int 0, .ref (v 17), .int 0, .ref (v 19), .ref (v 20), .int (-1), .int 0, .ref (v 23), .int (-1), .int (-1), .int (-1), .int 0, .int (-1), .int 0, .ref (v 30), .int 0, .ref (v 32), .int 0, .int 0, .ref (v 35), .ref (v 36), .ref (v 37), .ref (v 38), .long 0, .ref (v 40), .ref (v 41), .ref (v 42), .ref (v 43)])), (v 0, .inl (k 6, 400, .inl (fun _ => 0)))]) hE hP hD [0, 1] rfl (by decide))⟩ rfl rfl hl.1 rfl (lv_room (Nat.le_of_ble_eq_true rfl)) dX11_feed_17 ⟨(Nat.le_of_ble_eq_true rfl), (Nat.le_of_ble_eq_true rfl)⟩) (fun u_1 H locs _ hP hD hS => ?_)
  have hP : va_P G vwCl [(h0, .inr (11, [.ref (v 0), .int 4, .int 0, .ref (v 3), .ref (v 4), .ref (v 5), .ref (v 6), .ref (v 7), .int 0, .int 0, .int 0, .int 0, .int 0, .int 0, .int 0, .ref (v 15), .int 0, .ref (v 17), .int 0, .ref (v 19), .ref (v 20), .int (-1), .int 0, .ref (v 23), .int (-1), .int (-1), .int (-1), .int 0, .int (-1), .int 0, .ref (v 30), .int 0, .ref (v 32), .int 0, .int 0, .ref (v 35), .ref (v 36), .ref (v 37), .ref (v 38), .long 0, .ref (v 40), .ref (v 41), .ref (v 42), .ref (v 43)])), (v 0, .inl (k 6, 400, .inl u_1))] H := hP
  have hD : va_D A [(h0, .inr (11, [.ref (v 0), .int 4, .int 0, .ref (v 3), .ref (v 4), .ref (v 5), .ref (v 6), .ref (v 7), .int 0, .int 0, .int 0, .int 0, .int 0, .int 0, .int 0, .ref (v 15), .int 0, .ref (v 17), .int 0, .ref (v 19), .ref (v 20), .int (-1), .int 0, .ref (v 23), .int (-1), .int (-1), .int (-1), .int 0, .int (-1), .int 0, .ref (v 30), .int 0, .ref (v 32), .int 0, .int 0, .ref (v 35), .ref (v 36), .ref (v 37), .ref (v 38), .long 0, .ref (v 40), .ref (v 41), .ref (v 42), .ref (v 43)])), (v 0, .inl (k 6, 400, .inl u_1))] := hD
  refine lv_aload_n hx hb dX11_feed_20 rfl (lv_at hl 0 rfl) ?_
  refine lv_iload_n hx hb dX11_feed_21 rfl (lv_at hl 2 rfl) ?_
  refine gz_v (wc := [(h0, .inr (11, [.ref (v 0), .int 4, .int 0, .ref (v 3), .ref (v 4), .ref (v 5), .ref (v 6), .ref (v 7), .int 0, .int 0, .int 0, .int 0, .int 0, .int 0, .int 0, .ref (v 15), .int 0, .ref (v 17), .int 0, .ref (v 19), .ref (v 20), .int (-1), .int 0, .ref (v 23), .int (-1), .int (-1), .int (-1), .int 0, .int (-1), .int 0, .ref (v 30), .int 0, .ref (v 32), .int 0, .int 0, .ref (v 35), .ref (v 36), .ref (v 37), .ref (v 38), .long 0, .ref (v 40), .ref (v 41), .ref (v 42), .ref (v 43)])), (v 0, .inl (k 6, 400, .inl u_1))]) (wr := []) hP hD hS hA [0, 1] [] rfl rfl (by decide) (by decide) (va_runV (As := [.int b]) (rest := []) ⟨hx, hb, hml, hown, hts⟩ (m_four_4 l G k sa _ h0 v b u_1) (cwV 1 hts g_m_feed_95_m_four_4 rfl rfl rfl (by decide +kernel) ⟨(Nat.le_of_ble_eq_true rfl), (Nat.le_of_ble_eq_true rfl)⟩) ⟨gP.bl, va_recv hE.K hP (ci := 11) (q0 := 0) rfl rfl, (gP.pre (wc := [(h0, .inr (11, [.ref (v 0), .int 4, .int 0, .ref (v 3), .ref (v 4), .ref (v 5), .ref (v 6), .ref (v 7), .int 0, .int 0, .int 0, .int 0, .int 0, .int 0, .int 0, .ref (v 15), .int 0, .ref (v 17), .int 0, .ref (v 19), .ref (v 20), .int (-1), .int 0, .ref (v 23), .int (-1), .int (-1), .int (-1), .int 0, .int (-1), .int 0, .ref (v 30), .int 0, .ref (v 32), .int 0, .int 0, .ref (v 35), .ref (v 36), .ref (v 37), .ref (v 38), .long 0, .ref (v 40), .ref (v 41), .ref (v 42), .ref (v 43)])), (v 0, .inl (k 6, 400, .inl u_1))]) hE hP hD [0, 1] rfl (by decide))⟩ rfl rfl hl.1 rfl (lv_room (Nat.le_of_ble_eq_true rfl)) dX11_feed_22 ⟨(Nat.le_of_ble_eq_true rfl), (Nat.le_of_ble_eq_true rfl)⟩) (fun u_2 H locs _ hP hD hS => ?_)
  have hP : va_P G vwCl [(h0, .inr (11, [.ref (v 0), .int 8, .int 0, .ref (v 3), .ref (v 4), .ref (v 5), .ref (v 6), .ref (v 7), .int 0, .int 0, .int 0, .int 0, .int 0, .int 0, .int 0, .ref (v 15), .int 0, .ref (v 17), .int 0, .ref (v 19), .ref (v 20), .int (-1), .int 0, .ref (v 23), .int (-1), .int (-1), .int (-1), .int 0, .int (-1), .int 0, .ref (v 30), .int 0, .ref (v 32), .int 0, .int 0, .ref (v 35), .ref (v 36), .ref (v 37), .ref (v 38), .long 0, .ref (v 40), .ref (v 41), .ref (v 42), .ref (v 43)])), (v 0, .inl (k 6, 400, .inl u_2))] H := hP
  have hD : va_D A [(h0, .inr (11, [.ref (v 0), .int 8, .int 0, .ref (v 3), .ref (v 4), .ref (v 5), .ref (v 6), .ref (v 7), .int 0, .int 0, .int 0, .int 0, .int 0, .int 0, .int 0, .ref (v 15), .int 0, .ref (v 17), .int 0, .ref (v 19), .ref (v 20), .int (-1), .int 0, .ref (v 23), .int (-1), .int (-1), .int (-1), .int 0, .int (-1), .int 0, .ref (v 30), .int 0, .ref (v 32), .int 0, .int 0, .ref (v 35), .ref (v 36), .ref (v 37), .ref (v 38), .long 0, .ref (v 40), .ref (v 41), .ref (v 42), .ref (v 43)])), (v 0, .inl (k 6, 400, .inl u_2))] := hD
  refine lv_aload_n hx hb dX11_feed_25 rfl (lv_at hl 0 rfl) ?_
  refine lv_iload_n hx hb dX11_feed_26 rfl (lv_at hl 3 rfl) ?_
  refine gz_v (wc := [(h0, .inr (11, [.ref (v 0), .int 8, .int 0, .ref (v 3), .ref (v 4), .ref (v 5), .ref (v 6), .ref (v 7), .int 0, .int 0, .int 0, .int 0, .int 0, .int 0, .int 0, .ref (v 15), .int 0, .ref (v 17), .int 0, .ref (v 19), .ref (v 20), .int (-1), .int 0, .ref (v 23), .int (-1), .int (-1), .int (-1), .int 0, .int (-1), .int 0, .ref (v 30), .int 0, .ref (v 32), .int 0, .int 0, .ref (v 35), .ref (v 36), .ref (v 37), .ref (v 38), .long 0, .ref (v 40), .ref (v 41), .ref (v 42), .ref (v 43)])), (v 0, .inl (k 6, 400, .inl u_2))]) (wr := []) hP hD hS hA [0, 1] [] rfl rfl (by decide) (by decide) (va_runV (As := [.int c1]) (rest := []) ⟨hx, hb, hml, hown, hts⟩ (m_four_8 l G k sa _ h0 v c1 u_2) (cwV 1 hts g_m_feed_95_m_four_8 rfl rfl rfl (by decide +kernel) ⟨(Nat.le_of_ble_eq_true rfl), (Nat.le_of_ble_eq_true rfl)⟩) ⟨gP.bl, va_recv hE.K hP (ci := 11) (q0 := 0) rfl rfl, (gP.pre (wc := [(h0, .inr (11, [.ref (v 0), .int 8, .int 0, .ref (v 3), .ref (v 4), .ref (v 5), .ref (v 6), .ref (v 7), .int 0, .int 0, .int 0, .int 0, .int 0, .int 0, .int 0, .ref (v 15), .int 0, .ref (v 17), .int 0, .ref (v 19), .ref (v 20), .int (-1), .int 0, .ref (v 23), .int (-1), .int (-1), .int (-1), .int 0, .int (-1), .int 0, .ref (v 30), .int 0, .ref (v 32), .int 0, .int 0, .ref (v 35), .ref (v 36), .ref (v 37), .ref (v 38), .long 0, .ref (v 40), .ref (v 41), .ref (v 42), .ref (v 43)])), (v 0, .inl (k 6, 400, .inl u_2))]) hE hP hD [0, 1] rfl (by decide))⟩ rfl rfl hl.1 rfl (lv_room (Nat.le_of_ble_eq_true rfl)) dX11_feed_27 ⟨(Nat.le_of_ble_eq_true rfl), (Nat.le_of_ble_eq_true rfl)⟩) (fun u_3 H locs _ hP hD hS => ?_)
  have hP : va_P G vwCl [(h0, .inr (11, [.ref (v 0), .int 12, .int 0, .ref (v 3), .ref (v 4), .ref (v 5), .ref (v 6), .ref (v 7), .int 0, .int 0, .int 0, .int 0, .int 0, .int 0, .int 0, .ref (v 15), .int 0, .ref (v 17), .int 0, .ref (v 19), .ref (v 20), .int (-1), .int 0, .ref (v 23), .int (-1), .int (-1), .int (-1), .int 0, .int (-1), .int 0, .ref (v 30), .int 0, .ref (v 32), .int 0, .int 0, .ref (v 35), .ref (v 36), .ref (v 37), .ref (v 38), .long 0, .ref (v 40), .ref (v 41), .ref (v 42), .ref (v 43)])), (v 0, .inl (k 6, 400, .inl u_3))] H := hP
  have hD : va_D A [(h0, .inr (11, [.ref (v 0), .int 12, .int 0, .ref (v 3), .ref (v 4), .ref (v 5), .ref (v 6), .ref (v 7), .int 0, .int 0, .int 0, .int 0, .int 0, .int 0, .int 0, .ref (v 15), .int 0, .ref (v 17), .int 0, .ref (v 19), .ref (v 20), .int (-1), .int 0, .ref (v 23), .int (-1), .int (-1), .int (-1), .int 0, .int (-1), .int 0, .ref (v 30), .int 0, .ref (v 32), .int 0, .int 0, .ref (v 35), .ref (v 36), .ref (v 37), .ref (v 38), .long 0, .ref (v 40), .ref (v 41), .ref (v 42), .ref (v 43)])), (v 0, .inl (k 6, 400, .inl u_3))] := hD
  refine lv_aload_n hx hb dX11_feed_30 rfl (lv_at hl 0 rfl) ?_
  refine lv_iload hx hb dX11_feed_31 (lv_at hl 4 rfl) ?_
  refine gz_v (wc := [(h0, .inr (11, [.ref (v 0), .int 12, .int 0, .ref (v 3), .ref (v 4), .ref (v 5), .ref (v 6), .ref (v 7), .int 0, .int 0, .int 0, .int 0, .int 0, .int 0, .int 0, .ref (v 15), .int 0, .ref (v 17), .int 0, .ref (v 19), .ref (v 20), .int (-1), .int 0, .ref (v 23), .int (-1), .int (-1), .int (-1), .int 0, .int (-1), .int 0, .ref (v 30), .int 0, .ref (v 32), .int 0, .int 0, .ref (v 35), .ref (v 36), .ref (v 37), .ref (v 38), .long 0, .ref (v 40), .ref (v 41), .ref (v 42), .ref (v 43)])), (v 0, .inl (k 6, 400, .inl u_3))]) (wr := []) hP hD hS hA [0, 1] [] rfl rfl (by decide) (by decide) (va_runV (As := [.int d1]) (rest := []) ⟨hx, hb, hml, hown, hts⟩ (m_four_12 l G k sa _ h0 v d1 u_3) (cwV 1 hts g_m_feed_95_m_four_12 rfl rfl rfl (by decide +kernel) ⟨(Nat.le_of_ble_eq_true rfl), (Nat.le_of_ble_eq_true rfl)⟩) ⟨gP.bl, va_recv hE.K hP (ci := 11) (q0 := 0) rfl rfl, (gP.pre (wc := [(h0, .inr (11, [.ref (v 0), .int 12, .int 0, .ref (v 3), .ref (v 4), .ref (v 5), .ref (v 6), .ref (v 7), .int 0, .int 0, .int 0, .int 0, .int 0, .int 0, .int 0, .ref (v 15), .int 0, .ref (v 17), .int 0, .ref (v 19), .ref (v 20), .int (-1), .int 0, .ref (v 23), .int (-1), .int (-1), .int (-1), .int 0, .int (-1), .int 0, .ref (v 30), .int 0, .ref (v 32), .int 0, .int 0, .ref (v 35), .ref (v 36), .ref (v 37), .ref (v 38), .long 0, .ref (v 40), .ref (v 41), .ref (v 42), .ref (v 43)])), (v 0, .inl (k 6, 400, .inl u_3))]) hE hP hD [0, 1] rfl (by decide))⟩ rfl rfl hl.1 rfl (lv_room (Nat.le_of_ble_eq_true rfl)) dX11_feed_33 ⟨(Nat.le_of_ble_eq_true rfl), (Nat.le_of_ble_eq_true rfl)⟩) (fun u_4 H locs _ hP hD hS => ?_)
  have hP : va_P G vwCl [(h0, .inr (11, [.ref (v 0), .int 16, .int 0, .ref (v 3), .ref (v 4), .ref (v 5), .ref (v 6), .ref (v 7), .int 0, .int 0, .int 0, .int 0, .int 0, .int 0, .int 0, .ref (v 15), .int 0, .ref (v 17), .int 0, .ref (v 19), .ref (v 20), .int (-1), .int 0, .ref (v 23), .int (-1), .int (-1), .int (-1), .int 0, .int (-1), .int 0, .ref (v 30), .int 0, .ref (v 32), .int 0, .int 0, .ref (v 35), .ref (v 36), .ref (v 37), .ref (v 38), .long 0, .ref (v 40), .ref (v 41), .ref (v 42), .ref (v 43)])), (v 0, .inl (k 6, 400, .inl u_4))] H := hP
  have hD : va_D A [(h0, .inr (11, [.ref (v 0), .int 16, .int 0, .ref (v 3), .ref (v 4), .ref (v 5), .ref (v 6), .ref (v 7), .int 0, .int 0, .int 0, .int 0, .int 0, .int 0, .int 0, .ref (v 15), .int 0, .ref (v 17), .int 0, .ref (v 19), .ref (v 20), .int (-1), .int 0, .ref (v 23), .int (-1), .int (-1), .int (-1), .int 0, .int (-1), .int 0, .ref (v 30), .int 0, .ref (v 32), .int 0, .int 0, .ref (v 35), .ref (v 36), .ref (v 37), .ref (v 38), .long 0, .ref (v 40), .ref (v 41), .ref (v 42), .ref (v 43)])), (v 0, .inl (k 6, 400, .inl u_4))] := hD
  refine lv_aload_n hx hb dX11_feed_36 rfl (lv_at hl 0 rfl) ?_
  refine lv_iload hx hb dX11_feed_37 (lv_at hl 5 rfl) ?_
  refine gz_v (wc := [(h0, .inr (11, [.ref (v 0), .int 16, .int 0, .ref (v 3), .ref (v 4), .ref (v 5), .ref (v 6), .ref (v 7), .int 0, .int 0, .int 0, .int 0, .int 0, .int 0, .int 0, .ref (v 15), .int 0, .ref (v 17), .int 0, .ref (v 19), .ref (v 20), .int (-1), .int 0, .ref (v 23), .int (-1), .int (-1), .int (-1), .int 0, .int (-1), .int 0, .ref (v 30), .int 0, .ref (v 32), .int 0, .int 0, .ref (v 35), .ref (v 36), .ref (v 37), .ref (v 38), .long 0, .ref (v 40), .ref (v 41), .ref (v 42), .ref (v 43)])), (v 0, .inl (k 6, 400, .inl u_4))]) (wr := []) hP hD hS hA [0, 1] [] rfl rfl (by decide) (by decide) (va_runV (As := [.int e1]) (rest := []) ⟨hx, hb, hml, hown, hts⟩ (m_four_16 l G k sa _ h0 v e1 u_4) (cwV 1 hts g_m_feed_95_m_four_16 rfl rfl rfl (by decide +kernel) ⟨(Nat.le_of_ble_eq_true rfl), (Nat.le_of_ble_eq_true rfl)⟩) ⟨gP.bl, va_recv hE.K hP (ci := 11) (q0 := 0) rfl rfl, (gP.pre (wc := [(h0, .inr (11, [.ref (v 0), .int 16, .int 0, .ref (v 3), .ref (v 4), .ref (v 5), .ref (v 6), .ref (v 7), .int 0, .int 0, .int 0, .int 0, .int 0, .int 0, .int 0, .ref (v 15), .int 0, .ref (v 17), .int 0, .ref (v 19), .ref (v 20), .int (-1), .int 0, .ref (v 23), .int (-1), .int (-1), .int (-1), .int 0, .int (-1), .int 0, .ref (v 30), .int 0, .ref (v 32), .int 0, .int 0, .ref (v 35), .ref (v 36), .ref (v 37), .ref (v 38), .long 0, .ref (v 40), .ref (v 41), .ref (v 42), .ref (v 43)])), (v 0, .inl (k 6, 400, .inl u_4))]) hE hP hD [0, 1] rfl (by decide))⟩ rfl rfl hl.1 rfl (lv_room (Nat.le_of_ble_eq_true rfl)) dX11_feed_39 ⟨(Nat.le_of_ble_eq_true rfl), (Nat.le_of_ble_eq_true rfl)⟩) (fun u_5 H locs _ hP hD hS => ?_)
  have hP : va_P G vwCl [(h0, .inr (11, [.ref (v 0), .int 20, .int 0, .ref (v 3), .ref (v 4), .ref (v 5), .ref (v 6), .ref (v 7), .int 0, .int 0, .int 0, .int 0, .int 0, .int 0, .int 0, .ref (v 15), .int 0, .ref (v 17), .int 0, .ref (v 19), .ref (v 20), .int (-1), .int 0, .ref (v 23), .int (-1), .int (-1), .int (-1), .int 0, .int (-1), .int 0, .ref (v 30), .int 0, .ref (v 32), .int 0, .int 0, .ref (v 35), .ref (v 36), .ref (v 37), .ref (v 38), .long 0, .ref (v 40), .ref (v 41), .ref (v 42), .ref (v 43)])), (v 0, .inl (k 6, 400, .inl u_5))] H := hP
  have hD : va_D A [(h0, .inr (11, [.ref (v 0), .int 20, .int 0, .ref (v 3), .ref (v 4), .ref (v 5), .ref (v 6), .ref (v 7), .int 0, .int 0, .int 0, .int 0, .int 0, .int 0, .int 0, .ref (v 15), .int 0, .ref (v 17), .int 0, .ref (v 19), .ref (v 20), .int (-1), .int 0, .ref (v 23), .int (-1), .int (-1), .int (-1), .int 0, .int (-1), .int 0, .ref (v 30), .int 0, .ref (v 32), .int 0, .int 0, .ref (v 35), .ref (v 36), .ref (v 37), .ref (v 38), .long 0, .ref (v 40), .ref (v 41), .ref (v 42), .ref (v 43)])), (v 0, .inl (k 6, 400, .inl u_5))] := hD
  refine lv_aload_n hx hb dX11_feed_42 rfl (lv_at hl 0 rfl) ?_
  refine va_get (D := G) (ci := 11) (v := .int 20) (C := RX11) (T := TX11) (N := 44) hx hb hts j_m_feed_11 hown hE.K hP 0 rfl rfl 1 (by decide) (hts (.fieldLink RX11 92 "GossamerGateModel" "taped" "I") (List.mem_cons_of_mem _ (List.mem_append_left _ (List.mem_of_getElem? (i := 0) rfl)))) (fun _ h9 => h9) rfl dX11_feed_43 ?_
  have hP9 := hP.sub (ws' := []) [] rfl
  have hD9 := hD.sub (ws' := []) [] (by decide) rfl
  exact W.iret (v := 20) hx hb hr (fun t ht hW => ⟨⟨20, (fun _ => 0), rfl, rfl, by rw [ht]; exact hP9, hD9⟩, hS.F ht⟩) hS.2.2 dX11_feed_46
set_option maxHeartbeats 4000000 in
set_option maxRecDepth 100000 in
theorem m_end (l : Launch) (G : va_G) (k : Nat → ClassId) (sa : Nat → Nat) (sz : Nat) (h0 : Nat) (v : Nat → Nat) (a : Int32) : Met l yX11_end vs_m_end ({ frames := 0, cells := 0, slots := 0, locals := 0 } : Room) (gP G k sa [.ref h0, .int a] [(h0, .inr (11, [.ref (v 0), .int 0, .int 0, .ref (v 3), .ref (v 4), .ref (v 5), .ref (v 6), .ref (v 7), .int 0, .int 0, .int 0, .int 0, .int 0, .int 0, .int 0, .ref (v 15), .int 0, .ref (v 17), .int 0, .ref (v 19), .ref (v 20), .int (-1), .int 0, .ref (v 23), .int (-1), .int (-1), .int (-1), .int 0, .int (-1), .int 0, .ref (v 30), .int 0, .ref (v 32), .int 0, .int 0, .ref (v 35), .ref (v 36), .ref (v 37), .ref (v 38), .long 0, .ref (v 40), .ref (v 41), .ref (v 42), .ref (v 43)]))] sz) (va_Qi (fun r (_ : Nat → Nat) => (r = (-1) ∧ (¬ a = 0)) ∨ (r = a ∧ (a = 0))) (gO G (va_A ([(h0, .inr (11, [.ref (v 0), .int 0, .int 0, .ref (v 3), .ref (v 4), .ref (v 5), .ref (v 6), .ref (v 7), .int 0, .int 0, .int 0, .int 0, .int 0, .int 0, .int 0, .ref (v 15), .int 0, .ref (v 17), .int 0, .ref (v 19), .ref (v 20), .int (-1), .int 0, .ref (v 23), .int (-1), .int (-1), .int (-1), .int 0, .int (-1), .int 0, .ref (v 30), .int 0, .ref (v 32), .int 0, .int 0, .ref (v 35), .ref (v 36), .ref (v 37), .ref (v 38), .long 0, .ref (v 40), .ref (v 41), .ref (v 42), .ref (v 43)]))]) sz) (fun _ => [])) (va_A ([(h0, .inr (11, [.ref (v 0), .int 0, .int 0, .ref (v 3), .ref (v 4), .ref (v 5), .ref (v 6), .ref (v 7), .int 0, .int 0, .int 0, .int 0, .int 0, .int 0, .int 0, .ref (v 15), .int 0, .ref (v 17), .int 0, .ref (v 19), .ref (v 20), .int (-1), .int 0, .ref (v 23), .int (-1), .int (-1), .int (-1), .int 0, .int (-1), .int 0, .ref (v 30), .int 0, .ref (v 32), .int 0, .int 0, .ref (v 35), .ref (v 36), .ref (v 37), .ref (v 38), .long 0, .ref (v 40), .ref (v 41), .ref (v 42), .ref (v 43)]))]) sz)) 0 0 (va_A ([(h0, .inr (11, [.ref (v 0), .int 0, .int 0, .ref (v 3), .ref (v 4), .ref (v 5), .ref (v 6), .ref (v 7), .int 0, .int 0, .int 0, .int 0, .int 0, .int 0, .int 0, .ref (v 15), .int 0, .ref (v 17), .int 0, .ref (v 19), .ref (v 20), .int (-1), .int 0, .ref (v 23), .int (-1), .int (-1), .int (-1), .int 0, .int (-1), .int 0, .ref (v 30), .int 0, .ref (v 32), .int 0, .int 0, .ref (v 35), .ref (v 36), .ref (v 37), .ref (v 38), .long 0, .ref (v 40), .ref (v 41), .ref (v 42), .ref (v 43)]))]) sz) := by
  refine gz_met (cc := cX11_end) (maxL := 2) (ret := (some .int)) (by decide) rfl (Nat.le_of_ble_eq_true rfl) ?_
  intro p_ e_ s_ m below_ meth_ c_ ls hx hb hr hml hts hown hlocks hin hP hE hD hA hS
  generalize hAe : va_A ([(h0, .inr (11, [.ref (v 0), .int 0, .int 0, .ref (v 3), .ref (v 4), .ref (v 5), .ref (v 6), .ref (v 7), .int 0, .int 0, .int 0, .int 0, .int 0, .int 0, .int 0, .ref (v 15), .int 0, .ref (v 17), .int 0, .ref (v 19), .ref (v 20), .int (-1), .int 0, .ref (v 23), .int (-1), .int (-1), .int (-1), .int 0, .int (-1), .int 0, .ref (v 30), .int 0, .ref (v 32), .int 0, .int 0, .ref (v 35), .ref (v 36), .ref (v 37), .ref (v 38), .long 0, .ref (v 40), .ref (v 41), .ref (v 42), .ref (v 43)]))]) sz = A at hD hA hS ⊢
  intro hl
  have hl : lv_has ls 2 [(0, .ref h0), (1, .int a)] := hl
  refine lv_iload_n hx hb dX11_end_0 rfl (lv_at hl 1 rfl) ?_
  refine lv_if_lt (tgt := 12) hx hb dX11_end_1 (by decide) (fun c_1 => ?_) (fun c_1 => ?_)
  · refine lv_iconst (v := (-1)) hx hb dX11_end_12 (by decide) ?_
    have hP9 := hP.sub (ws' := []) [] rfl
    have hD9 := hD.sub (ws' := []) [] (by decide) rfl
    exact W.iret (v := (-1)) hx hb hr (fun t ht hW => ⟨⟨(-1), (fun _ => 0), rfl, (Or.inl ⟨rfl, gz_e1 c_1⟩), by rw [ht]; exact hP9, hD9⟩, hS.F ht⟩) hS.2.2 dX11_end_13
  · refine lv_iload_n hx hb dX11_end_4 rfl (lv_at hl 1 rfl) ?_
    refine lv_aload_n hx hb dX11_end_5 rfl (lv_at hl 0 rfl) ?_
    refine va_get (D := G) (ci := 11) (v := .int 0) (C := RX11) (T := TX11) (N := 44) hx hb hts j_m_end_11 hown hE.K hP 0 rfl rfl 1 (by decide) (hts (.fieldLink RX11 92 "GossamerGateModel" "taped" "I") (List.mem_cons_of_mem _ (List.mem_append_left _ (List.mem_of_getElem? (i := 0) rfl)))) (fun _ h9 => h9) rfl dX11_end_6 ?_
    refine lv_icmp_le (tgt := 14) hx hb dX11_end_9 (by decide) (fun c_2 => ?_) (fun c_2 => ?_)
    · refine lv_aload_n hx hb dX11_end_14 rfl (lv_at hl 0 rfl) ?_
      refine lv_iload_n hx hb dX11_end_15 rfl (lv_at hl 1 rfl) ?_
      refine va_put (D := G) (ci := 11) (v := .int a) (ty := .int) (C := RX11) (T := TX11) (N := 44) hx hb hts j_m_end_11 tyX11 tyX11_ok nmX11 hown hE.K hP hD hS 0 rfl rfl 1 (by decide) (hts (.fieldLink RX11 92 "GossamerGateModel" "taped" "I") (List.mem_cons_of_mem _ (List.mem_append_left _ (List.mem_of_getElem? (i := 0) rfl)))) (fun _ h9 => h9) rfl (by decide +kernel) rfl rfl (Nat.le_of_ble_eq_true rfl) dX11_end_16 (fun H locs hP hD hS => ?_)
      have hP : va_P G vwCl [(h0, .inr (11, [.ref (v 0), .int a, .int 0, .ref (v 3), .ref (v 4), .ref (v 5), .ref (v 6), .ref (v 7), .int 0, .int 0, .int 0, .int 0, .int 0, .int 0, .int 0, .ref (v 15), .int 0, .ref (v 17), .int 0, .ref (v 19), .ref (v 20), .int (-1), .int 0, .ref (v 23), .int (-1), .int (-1), .int (-1), .int 0, .int (-1), .int 0, .ref (v 30), .int 0, .ref (v 32), .int 0, .int 0, .ref (v 35), .ref (v 36), .ref (v 37), .ref (v 38), .long 0, .ref (v 40), .ref (v 41), .ref (v 42), .ref (v 43)]))] H := hP
      have hD : va_D A [(h0, .inr (11, [.ref (v 0), .int a, .int 0, .ref (v 3), .ref (v 4), .ref (v 5), .ref (v 6), .ref (v 7), .int 0, .int 0, .int 0, .int 0, .int 0, .int 0, .int 0, .ref (v 15), .int 0, .ref (v 17), .int 0, .ref (v 19), .ref (v 20), .int (-1), .int 0, .ref (v 23), .int (-1), .int (-1), .int (-1), .int 0, .int (-1), .int 0, .ref (v 30), .int 0, .ref (v 32), .int 0, .int 0, .ref (v 35), .ref (v 36), .ref (v 37), .ref (v 38), .long 0, .ref (v 40), .ref (v 41), .ref (v 42), .ref (v 43)]))] := hD
      refine lv_iload_n hx hb dX11_end_19 rfl (lv_at hl 1 rfl) ?_
      have hP9 := hP.sub (ws' := []) [] rfl
      have hD9 := hD.sub (ws' := []) [] (by decide) rfl
      exact W.iret (v := a) hx hb hr (fun t ht hW => ⟨⟨a, (fun _ => 0), rfl, (Or.inr ⟨rfl, gz_e3 c_1 c_2⟩), by rw [ht]; exact hP9, hD9⟩, hS.F ht⟩) hS.2.2 dX11_end_20
    · refine lv_iconst (v := (-1)) hx hb dX11_end_12 (by decide) ?_
      have hP9 := hP.sub (ws' := []) [] rfl
      have hD9 := hD.sub (ws' := []) [] (by decide) rfl
      exact W.iret (v := (-1)) hx hb hr (fun t ht hW => ⟨⟨(-1), (fun _ => 0), rfl, (Or.inl ⟨rfl, gz_e2 c_2⟩), by rw [ht]; exact hP9, hD9⟩, hS.F ht⟩) hS.2.2 dX11_end_13
set_option maxHeartbeats 4000000 in
set_option maxRecDepth 100000 in
theorem m_force (l : Launch) (G : va_G) (k : Nat → ClassId) (sa : Nat → Nat) (sz : Nat) (h0 : Nat) (v : Nat → Nat) (a : Int32) : Met l yX11_force vs_m_force ({ frames := 1, cells := 0, slots := 0, locals := 21 } : Room) (gP G k sa [.ref h0, .int a] [(h0, .inr (11, [.ref (v 0), .int 0, .int 0, .ref (v 3), .ref (v 4), .ref (v 5), .ref (v 6), .ref (v 7), .int 0, .int 0, .int 0, .int 0, .int 0, .int 0, .int 0, .ref (v 15), .int 0, .ref (v 17), .int 0, .ref (v 19), .ref (v 20), .int (-1), .int 0, .ref (v 23), .int (-1), .int (-1), .int (-1), .int 0, .int (-1), .int 0, .ref (v 30), .int 0, .ref (v 32), .int 0, .int 0, .ref (v 35), .ref (v 36), .ref (v 37), .ref (v 38), .long 0, .ref (v 40), .ref (v 41), .ref (v 42), .ref (v 43)]))] sz) (va_Qi (fun r (_ : Nat → Nat) => (r = (-1) ∧ (a = (-1))) ∨ (r = (-2) ∧ (¬ a = (-1)))) (gO G (va_A ([(h0, .inr (11, [.ref (v 0), .int 0, .int 0, .ref (v 3), .ref (v 4), .ref (v 5), .ref (v 6), .ref (v 7), .int 0, .int 0, .int 0, .int 0, .int 0, .int 0, .int 0, .ref (v 15), .int 0, .ref (v 17), .int 0, .ref (v 19), .ref (v 20), .int (-1), .int 0, .ref (v 23), .int (-1), .int (-1), .int (-1), .int 0, .int (-1), .int 0, .ref (v 30), .int 0, .ref (v 32), .int 0, .int 0, .ref (v 35), .ref (v 36), .ref (v 37), .ref (v 38), .long 0, .ref (v 40), .ref (v 41), .ref (v 42), .ref (v 43)]))]) sz) (fun _ => [])) (va_A ([(h0, .inr (11, [.ref (v 0), .int 0, .int 0, .ref (v 3), .ref (v 4), .ref (v 5), .ref (v 6), .ref (v 7), .int 0, .int 0, .int 0, .int 0, .int 0, .int 0, .int 0, .ref (v 15), .int 0, .ref (v 17), .int 0, .ref (v 19), .ref (v 20), .int (-1), .int 0, .ref (v 23), .int (-1), .int (-1), .int (-1), .int 0, .int (-1), .int 0, .ref (v 30), .int 0, .ref (v 32), .int 0, .int 0, .ref (v 35), .ref (v 36), .ref (v 37), .ref (v 38), .long 0, .ref (v 40), .ref (v 41), .ref (v 42), .ref (v 43)]))]) sz)) 0 0 (va_A ([(h0, .inr (11, [.ref (v 0), .int 0, .int 0, .ref (v 3), .ref (v 4), .ref (v 5), .ref (v 6), .ref (v 7), .int 0, .int 0, .int 0, .int 0, .int 0, .int 0, .int 0, .ref (v 15), .int 0, .ref (v 17), .int 0, .ref (v 19), .ref (v 20), .int (-1), .int 0, .ref (v 23), .int (-1), .int (-1), .int (-1), .int 0, .int (-1), .int 0, .ref (v 30), .int 0, .ref (v 32), .int 0, .int 0, .ref (v 35), .ref (v 36), .ref (v 37), .ref (v 38), .long 0, .ref (v 40), .ref (v 41), .ref (v 42), .ref (v 43)]))]) sz) := by
  refine gz_met (cc := cX11_force) (maxL := 3) (ret := (some .int)) (by decide) rfl (Nat.le_of_ble_eq_true rfl) ?_
  intro p_ e_ s_ m below_ meth_ c_ ls hx hb hr hml hts hown hlocks hin hP hE hD hA hS
  generalize hAe : va_A ([(h0, .inr (11, [.ref (v 0), .int 0, .int 0, .ref (v 3), .ref (v 4), .ref (v 5), .ref (v 6), .ref (v 7), .int 0, .int 0, .int 0, .int 0, .int 0, .int 0, .int 0, .ref (v 15), .int 0, .ref (v 17), .int 0, .ref (v 19), .ref (v 20), .int (-1), .int 0, .ref (v 23), .int (-1), .int (-1), .int (-1), .int 0, .int (-1), .int 0, .ref (v 30), .int 0, .ref (v 32), .int 0, .int 0, .ref (v 35), .ref (v 36), .ref (v 37), .ref (v 38), .long 0, .ref (v 40), .ref (v 41), .ref (v 42), .ref (v 43)]))]) sz = A at hD hA hS ⊢
  intro hl
  have hl : lv_has ls 3 [(0, .ref h0), (1, .int a)] := hl
  refine lv_iload_n hx hb dX11_force_0 rfl (lv_at hl 1 rfl) ?_
  refine lv_iconst (v := (-1)) hx hb dX11_force_1 (by decide) ?_
  refine lv_icmp_eq (tgt := 16) hx hb dX11_force_2 (by decide) (fun c_1 => ?_) (fun c_1 => ?_)
  · refine lv_aload_n hx hb dX11_force_16 rfl (lv_at hl 0 rfl) ?_
    refine va_get (D := G) (ci := 11) (v := .int (-1)) (C := RX11) (T := TX11) (N := 44) hx hb hts j_m_force_11 hown hE.K hP 0 rfl rfl 21 (by decide) (hts (.fieldLink RX11 42 "GossamerGateModel" "force" "I") (List.mem_cons_of_mem _ (List.mem_append_left _ (List.mem_of_getElem? (i := 0) rfl)))) (fun _ h9 => h9) rfl dX11_force_17 ?_
    refine lv_istore_n (lv' := [(2, .int (-1)), (0, .ref h0), (1, .int a)]) hx hb dX11_force_20 rfl hl (by decide) rfl (fun ls hl => ?_)
    refine lv_aload_n hx hb dX11_force_21 rfl (lv_at hl 1 rfl) ?_
    refine lv_iload_n hx hb dX11_force_22 rfl (lv_at hl 2 rfl) ?_
    refine va_put (D := G) (ci := 11) (v := .int a) (ty := .int) (C := RX11) (T := TX11) (N := 44) hx hb hts j_m_force_11 tyX11 tyX11_ok nmX11 hown hE.K hP hD hS 0 rfl rfl 21 (by decide) (hts (.fieldLink RX11 42 "GossamerGateModel" "force" "I") (List.mem_cons_of_mem _ (List.mem_append_left _ (List.mem_of_getElem? (i := 0) rfl)))) (fun _ h9 => h9) rfl (by decide +kernel) rfl rfl (Nat.le_of_ble_eq_true rfl) dX11_force_23 (fun H locs hP hD hS => ?_)
    have hP : va_P G vwCl [(h0, .inr (11, [.ref (v 0), .int 0, .int 0, .ref (v 3), .ref (v 4), .ref (v 5), .ref (v 6), .ref (v 7), .int 0, .int 0, .int 0, .int 0, .int 0, .int 0, .int 0, .ref (v 15), .int 0, .ref (v 17), .int 0, .ref (v 19), .ref (v 20), .int a, .int 0, .ref (v 23), .int (-1), .int (-1), .int (-1), .int 0, .int (-1), .int 0, .ref (v 30), .int 0, .ref (v 32), .int 0, .int 0, .ref (v 35), .ref (v 36), .ref (v 37), .ref (v 38), .long 0, .ref (v 40), .ref (v 41), .ref (v 42), .ref (v 43)]))] H := hP
    have hD : va_D A [(h0, .inr (11, [.ref (v 0), .int 0, .int 0, .ref (v 3), .ref (v 4), .ref (v 5), .ref (v 6), .ref (v 7), .int 0, .int 0, .int 0, .int 0, .int 0, .int 0, .int 0, .ref (v 15), .int 0, .ref (v 17), .int 0, .ref (v 19), .ref (v 20), .int a, .int 0, .ref (v 23), .int (-1), .int (-1), .int (-1), .int 0, .int (-1), .int 0, .ref (v 30), .int 0, .ref (v 32), .int 0, .int 0, .ref (v 35), .ref (v 36), .ref (v 37), .ref (v 38), .long 0, .ref (v 40), .ref (v 41), .ref (v 42), .ref (v 43)]))] := hD
    refine lv_iload_n hx hb dX11_force_26 rfl (lv_at hl 0 rfl) ?_
    have hP9 := hP.sub (ws' := []) [] rfl
    have hD9 := hD.sub (ws' := []) [] (by decide) rfl
    exact W.iret (v := (-1)) hx hb hr (fun t ht hW => ⟨⟨(-1), (fun _ => 0), rfl, (Or.inl ⟨rfl, c_1⟩), by rw [ht]; exact hP9, hD9⟩, hS.F ht⟩) hS.2.2 dX11_force_27
  · refine lv_aload_n hx hb dX11_force_5 rfl (lv_at hl 0 rfl) ?_
    refine lv_iload_n hx hb dX11_force_6 rfl (lv_at hl 1 rfl) ?_
    refine vp_callSi (W.runV (As := [.int a]) (rest := []) ⟨hx, hb, hml, hown, hts⟩ (m_isRule l G k sa h0 v a) (cwV 1 hts g_m_force_323_m_isRule rfl rfl rfl (by decide +kernel) ⟨(Nat.le_of_ble_eq_true rfl), (Nat.le_of_ble_eq_true rfl)⟩) ⟨gR.bl, va_recv hE.K hP (ci := 11) (q0 := 0) rfl rfl, (gR.pre (wc := [(h0, .inr (11, [.ref (v 0), .int 0, .int 0, .ref (v 3), .ref (v 4), .ref (v 5), .ref (v 6), .ref (v 7), .int 0, .int 0, .int 0, .int 0, .int 0, .int 0, .int 0, .ref (v 15), .int 0, .ref (v 17), .int 0, .ref (v 19), .ref (v 20), .int (-1), .int 0, .ref (v 23), .int (-1), .int (-1), .int (-1), .int 0, .int (-1), .int 0, .ref (v 30), .int 0, .ref (v 32), .int 0, .int 0, .ref (v 35), .ref (v 36), .ref (v 37), .ref (v 38), .long 0, .ref (v 40), .ref (v 41), .ref (v 42), .ref (v 43)]))]) hE hP [0] rfl)⟩ rfl rfl hl.1 rfl (lv_room (Nat.le_of_ble_eq_true rfl)) dX11_force_7 ⟨(Nat.le_of_ble_eq_true rfl), (Nat.le_of_ble_eq_true rfl)⟩) (fun r_2 hr_2 => ?_)
    obtain rfl : r_2 = 0 := hr_2
    refine lv_if_ne (tgt := 16) hx hb dX11_force_10 (by decide) (fun h9 => absurd h9 (by decide)) (fun _ => ?_)
    refine lv_bipush (v := (-2)) hx hb dX11_force_13 (by decide) ?_
    have hP9 := hP.sub (ws' := []) [] rfl
    have hD9 := hD.sub (ws' := []) [] (by decide) rfl
    exact W.iret (v := (-2)) hx hb hr (fun t ht hW => ⟨⟨(-2), (fun _ => 0), rfl, (Or.inr ⟨rfl, c_1⟩), by rw [ht]; exact hP9, hD9⟩, hS.F ht⟩) hS.2.2 dX11_force_15
set_option maxHeartbeats 4000000 in
set_option maxRecDepth 100000 in
theorem m_seed (l : Launch) (G : va_G) (k : Nat → ClassId) (sa : Nat → Nat) (sz : Nat) (h0 : Nat) (v : Nat → Nat) (a : Int32) : Met l yX11_seed vs_m_seed ({ frames := 0, cells := 0, slots := 0, locals := 0 } : Room) (gP G k sa [.ref h0, .int a] [(h0, .inr (11, [.ref (v 0), .int 0, .int 0, .ref (v 3), .ref (v 4), .ref (v 5), .ref (v 6), .ref (v 7), .int 0, .int 0, .int 0, .int 0, .int 0, .int 0, .int 0, .ref (v 15), .int 0, .ref (v 17), .int 0, .ref (v 19), .ref (v 20), .int (-1), .int 0, .ref (v 23), .int (-1), .int (-1), .int (-1), .int 0, .int (-1), .int 0, .ref (v 30), .int 0, .ref (v 32), .int 0, .int 0, .ref (v 35), .ref (v 36), .ref (v 37), .ref (v 38), .long 0, .ref (v 40), .ref (v 41), .ref (v 42), .ref (v 43)]))] sz) (va_Qi (fun r (_ : Nat → Nat) => (r = 0 ∧ (0 ≤ a)) ∨ (r = (-1) ∧ (¬ 0 ≤ a))) (gO G (va_A ([(h0, .inr (11, [.ref (v 0), .int 0, .int 0, .ref (v 3), .ref (v 4), .ref (v 5), .ref (v 6), .ref (v 7), .int 0, .int 0, .int 0, .int 0, .int 0, .int 0, .int 0, .ref (v 15), .int 0, .ref (v 17), .int 0, .ref (v 19), .ref (v 20), .int (-1), .int 0, .ref (v 23), .int (-1), .int (-1), .int (-1), .int 0, .int (-1), .int 0, .ref (v 30), .int 0, .ref (v 32), .int 0, .int 0, .ref (v 35), .ref (v 36), .ref (v 37), .ref (v 38), .long 0, .ref (v 40), .ref (v 41), .ref (v 42), .ref (v 43)]))]) sz) (fun _ => [])) (va_A ([(h0, .inr (11, [.ref (v 0), .int 0, .int 0, .ref (v 3), .ref (v 4), .ref (v 5), .ref (v 6), .ref (v 7), .int 0, .int 0, .int 0, .int 0, .int 0, .int 0, .int 0, .ref (v 15), .int 0, .ref (v 17), .int 0, .ref (v 19), .ref (v 20), .int (-1), .int 0, .ref (v 23), .int (-1), .int (-1), .int (-1), .int 0, .int (-1), .int 0, .ref (v 30), .int 0, .ref (v 32), .int 0, .int 0, .ref (v 35), .ref (v 36), .ref (v 37), .ref (v 38), .long 0, .ref (v 40), .ref (v 41), .ref (v 42), .ref (v 43)]))]) sz)) 0 0 (va_A ([(h0, .inr (11, [.ref (v 0), .int 0, .int 0, .ref (v 3), .ref (v 4), .ref (v 5), .ref (v 6), .ref (v 7), .int 0, .int 0, .int 0, .int 0, .int 0, .int 0, .int 0, .ref (v 15), .int 0, .ref (v 17), .int 0, .ref (v 19), .ref (v 20), .int (-1), .int 0, .ref (v 23), .int (-1), .int (-1), .int (-1), .int 0, .int (-1), .int 0, .ref (v 30), .int 0, .ref (v 32), .int 0, .int 0, .ref (v 35), .ref (v 36), .ref (v 37), .ref (v 38), .long 0, .ref (v 40), .ref (v 41), .ref (v 42), .ref (v 43)]))]) sz) := by
  refine gz_met (cc := cX11_seed) (maxL := 3) (ret := (some .int)) (by decide) rfl (Nat.le_of_ble_eq_true rfl) ?_
  intro p_ e_ s_ m below_ meth_ c_ ls hx hb hr hml hts hown hlocks hin hP hE hD hA hS
  generalize hAe : va_A ([(h0, .inr (11, [.ref (v 0), .int 0, .int 0, .ref (v 3), .ref (v 4), .ref (v 5), .ref (v 6), .ref (v 7), .int 0, .int 0, .int 0, .int 0, .int 0, .int 0, .int 0, .ref (v 15), .int 0, .ref (v 17), .int 0, .ref (v 19), .ref (v 20), .int (-1), .int 0, .ref (v 23), .int (-1), .int (-1), .int (-1), .int 0, .int (-1), .int 0, .ref (v 30), .int 0, .ref (v 32), .int 0, .int 0, .ref (v 35), .ref (v 36), .ref (v 37), .ref (v 38), .long 0, .ref (v 40), .ref (v 41), .ref (v 42), .ref (v 43)]))]) sz = A at hD hA hS ⊢
  intro hl
  have hl : lv_has ls 3 [(0, .ref h0), (1, .int a)] := hl
  refine lv_iload_n hx hb dX11_seed_0 rfl (lv_at hl 1 rfl) ?_
  refine lv_if_ge (tgt := 6) hx hb dX11_seed_1 (by decide) (fun c_1 => ?_) (fun c_1 => ?_)
  · refine lv_aload_n hx hb dX11_seed_6 rfl (lv_at hl 0 rfl) ?_
    refine va_get (D := G) (ci := 11) (v := .int 0) (C := RX11) (T := TX11) (N := 44) hx hb hts j_m_seed_11 hown hE.K hP 0 rfl rfl 22 (by decide) (hts (.fieldLink RX11 463 "GossamerGateModel" "x" "I") (List.mem_cons_of_mem _ (List.mem_append_left _ (List.mem_of_getElem? (i := 0) rfl)))) (fun _ h9 => h9) rfl dX11_seed_7 ?_
    refine lv_istore_n (lv' := [(2, .int 0), (0, .ref h0), (1, .int a)]) hx hb dX11_seed_10 rfl hl (by decide) rfl (fun ls hl => ?_)
    refine lv_aload_n hx hb dX11_seed_11 rfl (lv_at hl 1 rfl) ?_
    refine lv_iload_n hx hb dX11_seed_12 rfl (lv_at hl 2 rfl) ?_
    refine va_put (D := G) (ci := 11) (v := .int a) (ty := .int) (C := RX11) (T := TX11) (N := 44) hx hb hts j_m_seed_11 tyX11 tyX11_ok nmX11 hown hE.K hP hD hS 0 rfl rfl 22 (by decide) (hts (.fieldLink RX11 463 "GossamerGateModel" "x" "I") (List.mem_cons_of_mem _ (List.mem_append_left _ (List.mem_of_getElem? (i := 0) rfl)))) (fun _ h9 => h9) rfl (by decide +kernel) rfl rfl (Nat.le_of_ble_eq_true rfl) dX11_seed_13 (fun H locs hP hD hS => ?_)
    have hP : va_P G vwCl [(h0, .inr (11, [.ref (v 0), .int 0, .int 0, .ref (v 3), .ref (v 4), .ref (v 5), .ref (v 6), .ref (v 7), .int 0, .int 0, .int 0, .int 0, .int 0, .int 0, .int 0, .ref (v 15), .int 0, .ref (v 17), .int 0, .ref (v 19), .ref (v 20), .int (-1), .int a, .ref (v 23), .int (-1), .int (-1), .int (-1), .int 0, .int (-1), .int 0, .ref (v 30), .int 0, .ref (v 32), .int 0, .int 0, .ref (v 35), .ref (v 36), .ref (v 37), .ref (v 38), .long 0, .ref (v 40), .ref (v 41), .ref (v 42), .ref (v 43)]))] H := hP
    have hD : va_D A [(h0, .inr (11, [.ref (v 0), .int 0, .int 0, .ref (v 3), .ref (v 4), .ref (v 5), .ref (v 6), .ref (v 7), .int 0, .int 0, .int 0, .int 0, .int 0, .int 0, .int 0, .ref (v 15), .int 0, .ref (v 17), .int 0, .ref (v 19), .ref (v 20), .int (-1), .int a, .ref (v 23), .int (-1), .int (-1), .int (-1), .int 0, .int (-1), .int 0, .ref (v 30), .int 0, .ref (v 32), .int 0, .int 0, .ref (v 35), .ref (v 36), .ref (v 37), .ref (v 38), .long 0, .ref (v 40), .ref (v 41), .ref (v 42), .ref (v 43)]))] := hD
    refine lv_iload_n hx hb dX11_seed_16 rfl (lv_at hl 0 rfl) ?_
    have hP9 := hP.sub (ws' := []) [] rfl
    have hD9 := hD.sub (ws' := []) [] (by decide) rfl
    exact W.iret (v := 0) hx hb hr (fun t ht hW => ⟨⟨0, (fun _ => 0), rfl, (Or.inl ⟨rfl, c_1⟩), by rw [ht]; exact hP9, hD9⟩, hS.F ht⟩) hS.2.2 dX11_seed_17
  · refine lv_iconst (v := (-1)) hx hb dX11_seed_4 (by decide) ?_
    have hP9 := hP.sub (ws' := []) [] rfl
    have hD9 := hD.sub (ws' := []) [] (by decide) rfl
    exact W.iret (v := (-1)) hx hb hr (fun t ht hW => ⟨⟨(-1), (fun _ => 0), rfl, (Or.inr ⟨rfl, c_1⟩), by rw [ht]; exact hP9, hD9⟩, hS.F ht⟩) hS.2.2 dX11_seed_5
set_option maxHeartbeats 4000000 in
set_option maxRecDepth 100000 in
theorem m_note (l : Launch) (G : va_G) (k : Nat → ClassId) (sa : Nat → Nat) (sz : Nat) (h0 : Nat) (v : Nat → Nat) (a : Int32) (b : Int32) (c1 : Int32) : Met l yX11_note vs_m_note ({ frames := 1, cells := 0, slots := 0, locals := 25 } : Room) (gP G k sa [.ref h0, .int a, .int b, .int c1] [(h0, .inr (11, [.ref (v 0), .int 0, .int 0, .ref (v 3), .ref (v 4), .ref (v 5), .ref (v 6), .ref (v 7), .int 0, .int 0, .int 0, .int 0, .int 0, .int 0, .int 0, .ref (v 15), .int 0, .ref (v 17), .int 0, .ref (v 19), .ref (v 20), .int (-1), .int 0, .ref (v 23), .int (-1), .int (-1), .int (-1), .int 0, .int (-1), .int 0, .ref (v 30), .int 0, .ref (v 32), .int 0, .int 0, .ref (v 35), .ref (v 36), .ref (v 37), .ref (v 38), .long 0, .ref (v 40), .ref (v 41), .ref (v 42), .ref (v 43)])), (v 20, .inl (k 0, 206, .inl (fun _ => 0)))] sz) (va_Qi (fun r (_ : Nat → Nat) => (r = 0 ∧ (a = (-1))) ∨ (r = (-2) ∧ (¬ a = (-1)))) (gO G (va_A ([(h0, .inr (11, [.ref (v 0), .int 0, .int 0, .ref (v 3), .ref (v 4), .ref (v 5), .ref (v 6), .ref (v 7), .int 0, .int 0, .int 0, .int 0, .int 0, .int 0, .int 0, .ref (v 15), .int 0, .ref (v 17), .int 0, .ref (v 19), .ref (v 20), .int (-1), .int 0, .ref (v 23), .int (-1), .int (-1), .int (-1), .int 0, .int (-1), .int 0, .ref (v 30), .int 0, .ref (v 32), .int 0, .int 0, .ref (v 35), .ref (v 36), .ref (v 37), .ref (v 38), .long 0, .ref (v 40), .ref (v 41), .ref (v 42), .ref (v 43)])), (v 20, .inl (k 0, 206, .inl (fun _ => 0)))]) sz) (fun _ => [])) (va_A ([(h0, .inr (11, [.ref (v 0), .int 0, .int 0, .ref (v 3), .ref (v 4), .ref (v 5), .ref (v 6), .ref (v 7), .int 0, .int 0, .int 0, .int 0, .int 0, .int 0, .int 0, .ref (v 15), .int 0, .ref (v 17), .int 0, .ref (v 19), .ref (v 20), .int (-1), .int 0, .ref (v 23), .int (-1), .int (-1), .int (-1), .int 0, .int (-1), .int 0, .ref (v 30), .int 0, .ref (v 32), .int 0, .int 0, .ref (v 35), .ref (v 36), .ref (v 37), .ref (v 38), .long 0, .ref (v 40), .ref (v 41), .ref (v 42), .ref (v 43)])), (v 20, .inl (k 0, 206, .inl (fun _ => 0)))]) sz)) 0 0 (va_A ([(h0, .inr (11, [.ref (v 0), .int 0, .int 0, .ref (v 3), .ref (v 4), .ref (v 5), .ref (v 6), .ref (v 7), .int 0, .int 0, .int 0, .int 0, .int 0, .int 0, .int 0, .ref (v 15), .int 0, .ref (v 17), .int 0, .ref (v 19), .ref (v 20), .int (-1), .int 0, .ref (v 23), .int (-1), .int (-1), .int (-1), .int 0, .int (-1), .int 0, .ref (v 30), .int 0, .ref (v 32), .int 0, .int 0, .ref (v 35), .ref (v 36), .ref (v 37), .ref (v 38), .long 0, .ref (v 40), .ref (v 41), .ref (v 42), .ref (v 43)])), (v 20, .inl (k 0, 206, .inl (fun _ => 0)))]) sz) := by
  refine gz_met (cc := cX11_note) (maxL := 5) (ret := (some .int)) (by decide) rfl (Nat.le_of_ble_eq_true rfl) ?_
  intro p_ e_ s_ m below_ meth_ c_ ls hx hb hr hml hts hown hlocks hin hP hE hD hA hS
  generalize hAe : va_A ([(h0, .inr (11, [.ref (v 0), .int 0, .int 0, .ref (v 3), .ref (v 4), .ref (v 5), .ref (v 6), .ref (v 7), .int 0, .int 0, .int 0, .int 0, .int 0, .int 0, .int 0, .ref (v 15), .int 0, .ref (v 17), .int 0, .ref (v 19), .ref (v 20), .int (-1), .int 0, .ref (v 23), .int (-1), .int (-1), .int (-1), .int 0, .int (-1), .int 0, .ref (v 30), .int 0, .ref (v 32), .int 0, .int 0, .ref (v 35), .ref (v 36), .ref (v 37), .ref (v 38), .long 0, .ref (v 40), .ref (v 41), .ref (v 42), .ref (v 43)])), (v 20, .inl (k 0, 206, .inl (fun _ => 0)))]) sz = A at hD hA hS ⊢
  intro hl
  have hl : lv_has ls 5 [(0, .ref h0), (1, .int a), (2, .int b), (3, .int c1)] := hl
  refine lv_iload_n hx hb dX11_note_0 rfl (lv_at hl 1 rfl) ?_
  refine lv_iconst (v := (-1)) hx hb dX11_note_1 (by decide) ?_
  refine lv_icmp_ne (tgt := 16) hx hb dX11_note_2 (by decide) (fun c_1 => ?_) (fun c_1 => ?_)
  · refine lv_iload_n hx hb dX11_note_16 rfl (lv_at hl 1 rfl) ?_
    refine lv_i2l (v := a.toInt64) hx hb dX11_note_17 rfl ?_
    refine lv_lconst (v := 0) hx hb dX11_note_18 (by decide) ?_
    refine lv_ldc2 (v := 60) hx hb hown (hts (.constantLong RX11 418 (60)) (List.mem_cons_of_mem _ (List.mem_append_left _ (List.mem_of_getElem? (i := 0) rfl)))) dX11_note_19 ?_
    refine vp_callSi (W.runS (As := [.long a.toInt64, .long 0, .long 60]) (rest := []) ⟨hx, hb, hml, hown, hts⟩ (m_in l G k sa a.toInt64 0 60) (va_cwS 3 hts g_m_note_130_m_in rfl rfl rfl (by decide +kernel) ⟨(Nat.le_of_ble_eq_true rfl), (Nat.le_of_ble_eq_true rfl)⟩) ⟨gR.bl, (gR.pre (wc := []) hE hP [] rfl)⟩ rfl rfl hl.1 rfl (lv_room (Nat.le_of_ble_eq_true rfl)) dX11_note_22 ⟨(Nat.le_of_ble_eq_true rfl), (Nat.le_of_ble_eq_true rfl)⟩) (fun r_2 hr_2 => ?_)
    rcases hr_2 with ⟨rfl, c_3⟩ | ⟨rfl, c_3⟩
    · refine lv_if_eq (tgt := 62) hx hb dX11_note_25 (by decide) (fun h9 => absurd h9 (by decide)) (fun _ => ?_)
      refine lv_aload_n hx hb dX11_note_28 rfl (lv_at hl 0 rfl) ?_
      refine lv_iload_n hx hb dX11_note_29 rfl (lv_at hl 2 rfl) ?_
      refine vp_callSi (W.runV (As := [.int b]) (rest := []) ⟨hx, hb, hml, hown, hts⟩ (m_isPerson l G k sa h0 v b) (cwV 1 hts g_m_note_305_m_isPerson rfl rfl rfl (by decide +kernel) ⟨(Nat.le_of_ble_eq_true rfl), (Nat.le_of_ble_eq_true rfl)⟩) ⟨gR.bl, va_recv hE.K hP (ci := 11) (q0 := 0) rfl rfl, (gR.pre (wc := [(h0, .inr (11, [.ref (v 0), .int 0, .int 0, .ref (v 3), .ref (v 4), .ref (v 5), .ref (v 6), .ref (v 7), .int 0, .int 0, .int 0, .int 0, .int 0, .int 0, .int 0, .ref (v 15), .int 0, .ref (v 17), .int 0, .ref (v 19), .ref (v 20), .int (-1), .int 0, .ref (v 23), .int (-1), .int (-1), .int (-1), .int 0, .int (-1), .int 0, .ref (v 30), .int 0, .ref (v 32), .int 0, .int 0, .ref (v 35), .ref (v 36), .ref (v 37), .ref (v 38), .long 0, .ref (v 40), .ref (v 41), .ref (v 42), .ref (v 43)])), (v 20, .inl (k 0, 206, .inl (fun _ => 0)))]) hE hP [0, 1] rfl)⟩ rfl rfl hl.1 rfl (lv_room (Nat.le_of_ble_eq_true rfl)) dX11_note_30 ⟨(Nat.le_of_ble_eq_true rfl), (Nat.le_of_ble_eq_true rfl)⟩) (fun r_4 hr_4 => ?_)
      obtain rfl : r_4 = 0 := hr_4
      refine lv_if_eq (tgt := 62) hx hb dX11_note_33 (by decide) (fun _ => ?_) (fun h9 => absurd h9 (by decide))
      refine lv_bipush (v := (-2)) hx hb dX11_note_62 (by decide) ?_
      have hP9 := hP.sub (ws' := []) [] rfl
      have hD9 := hD.sub (ws' := []) [] (by decide) rfl
      exact W.iret (v := (-2)) hx hb hr (fun t ht hW => ⟨⟨(-2), (fun _ => 0), rfl, (Or.inr ⟨rfl, c_1⟩), by rw [ht]; exact hP9, hD9⟩, hS.F ht⟩) hS.2.2 dX11_note_64
    · refine lv_if_eq (tgt := 62) hx hb dX11_note_25 (by decide) (fun _ => ?_) (fun h9 => absurd h9 (by decide))
      refine lv_bipush (v := (-2)) hx hb dX11_note_62 (by decide) ?_
      have hP9 := hP.sub (ws' := []) [] rfl
      have hD9 := hD.sub (ws' := []) [] (by decide) rfl
      exact W.iret (v := (-2)) hx hb hr (fun t ht hW => ⟨⟨(-2), (fun _ => 0), rfl, (Or.inr ⟨rfl, c_1⟩), by rw [ht]; exact hP9, hD9⟩, hS.F ht⟩) hS.2.2 dX11_note_64
  · refine lv_aload_n hx hb dX11_note_5 rfl (lv_at hl 0 rfl) ?_
    refine va_get (D := G) (ci := 11) (v := .ref (v 20)) (C := RX11) (T := TX11) (N := 44) hx hb hts j_m_note_11 hown hE.K hP 0 rfl rfl 20 (by decide) (hts (.fieldLink RX11 39 "GossamerGateModel" "said" "[I") (List.mem_cons_of_mem _ (List.mem_append_left _ (List.mem_of_getElem? (i := 7) rfl)))) (fun _ h9 => h9) rfl dX11_note_6 ?_
    refine lv_sipush (v := 205) hx hb dX11_note_9 (by decide) ?_
    refine lv_iconst (v := 0) hx hb dX11_note_12 (by decide) ?_
    refine va_iast hx hb hE.K hP hD hS 1 0 rfl rfl (gz_in (by decide)) dX11_note_13 (fun H locs hP hD hS => ?_)
    have hP : va_P G vwCl [(h0, .inr (11, [.ref (v 0), .int 0, .int 0, .ref (v 3), .ref (v 4), .ref (v 5), .ref (v 6), .ref (v 7), .int 0, .int 0, .int 0, .int 0, .int 0, .int 0, .int 0, .ref (v 15), .int 0, .ref (v 17), .int 0, .ref (v 19), .ref (v 20), .int (-1), .int 0, .ref (v 23), .int (-1), .int (-1), .int (-1), .int 0, .int (-1), .int 0, .ref (v 30), .int 0, .ref (v 32), .int 0, .int 0, .ref (v 35), .ref (v 36), .ref (v 37), .ref (v 38), .long 0, .ref (v 40), .ref (v 41), .ref (v 42), .ref (v 43)])), (v 20, .inl (k 0, 206, .inl (upd (fun _ => 0) 205 0)))] H := hP
    have hD : va_D A [(h0, .inr (11, [.ref (v 0), .int 0, .int 0, .ref (v 3), .ref (v 4), .ref (v 5), .ref (v 6), .ref (v 7), .int 0, .int 0, .int 0, .int 0, .int 0, .int 0, .int 0, .ref (v 15), .int 0, .ref (v 17), .int 0, .ref (v 19), .ref (v 20), .int (-1), .int 0, .ref (v 23), .int (-1), .int (-1), .int (-1), .int 0, .int (-1), .int 0, .ref (v 30), .int 0, .ref (v 32), .int 0, .int 0, .ref (v 35), .ref (v 36), .ref (v 37), .ref (v 38), .long 0, .ref (v 40), .ref (v 41), .ref (v 42), .ref (v 43)])), (v 20, .inl (k 0, 206, .inl (upd (fun _ => 0) 205 0)))] := hD
    refine lv_iconst (v := 0) hx hb dX11_note_14 (by decide) ?_
    have hP9 := hP.sub (ws' := []) [] rfl
    have hD9 := hD.sub (ws' := []) [] (by decide) rfl
    exact W.iret (v := 0) hx hb hr (fun t ht hW => ⟨⟨0, (fun _ => 0), rfl, (Or.inl ⟨rfl, c_1⟩), by rw [ht]; exact hP9, hD9⟩, hS.F ht⟩) hS.2.2 dX11_note_15
set_option maxHeartbeats 4000000 in
set_option maxRecDepth 100000 in
theorem m_see (l : Launch) (G : va_G) (k : Nat → ClassId) (sa : Nat → Nat) (h0 : Nat) (v : Nat → Nat) (tx : Int32) (wr : Int32) : Met l yX11_see vs_m_see ({ frames := 0, cells := 0, slots := 0, locals := 0 } : Room) (gR G k sa [.ref h0] [(h0, .inr (11, [.ref (v 0), .int 0, .int 0, .ref (v 3), .ref (v 4), .ref (v 5), .ref (v 6), .ref (v 7), .int 0, .int wr, .int 0, .int tx, .int 0, .int 0, .int 0, .ref (v 15), .int 0, .ref (v 17), .int 0, .ref (v 19), .ref (v 20), .int (-1), .int 0, .ref (v 23), .int (-1), .int (-1), .int (-1), .int 0, .int (-1), .int 0, .ref (v 30), .int 0, .ref (v 32), .int 0, .int 0, .ref (v 35), .ref (v 36), .ref (v 37), .ref (v 38), .long 0, .ref (v 40), .ref (v 41), .ref (v 42), .ref (v 43)]))]) (vp_Si (fun r => r = (-1))) 0 0 (fun _ => False) := by
  refine gz_metR (cc := cX11_see) (maxL := 1) (ret := (some .int)) (by decide) rfl (Nat.le_of_ble_eq_true rfl) ?_
  intro p_ e_ s_ m below_ meth_ c_ ls hx hb hr hml hts hown hlocks hP hE hl
  have hl : lv_has ls 1 [(0, .ref h0)] := hl
  refine lv_aload_n hx hb dX11_see_0 rfl (lv_at hl 0 rfl) ?_
  refine va_get (D := G) (ci := 11) (v := .int 0) (C := RX11) (T := TX11) (N := 44) hx hb hts j_m_see_11 hown hE.K hP 0 rfl rfl 8 (by decide) (hts (.fieldLink RX11 102 "GossamerGateModel" "next" "I") (List.mem_cons_of_mem _ (List.mem_append_left _ (List.mem_of_getElem? (i := 0) rfl)))) (fun _ h9 => h9) rfl dX11_see_1 ?_
  refine lv_aload_n hx hb dX11_see_4 rfl (lv_at hl 0 rfl) ?_
  refine va_get (D := G) (ci := 11) (v := .int 0) (C := RX11) (T := TX11) (N := 44) hx hb hts j_m_see_11 hown hE.K hP 0 rfl rfl 1 (by decide) (hts (.fieldLink RX11 92 "GossamerGateModel" "taped" "I") (List.mem_cons_of_mem _ (List.mem_append_left _ (List.mem_of_getElem? (i := 1) rfl)))) (fun _ h9 => h9) rfl dX11_see_5 ?_
  refine lv_icmp_ge (tgt := 38) hx hb dX11_see_8 (by decide) (fun _ => ?_) (fun h9 => absurd h9 (by decide))
  refine lv_aload_n hx hb dX11_see_38 rfl (lv_at hl 0 rfl) ?_
  refine va_get (D := G) (ci := 11) (v := .int 0) (C := RX11) (T := TX11) (N := 44) hx hb hts j_m_see_11 hown hE.K hP 0 rfl rfl 8 (by decide) (hts (.fieldLink RX11 102 "GossamerGateModel" "next" "I") (List.mem_cons_of_mem _ (List.mem_append_left _ (List.mem_of_getElem? (i := 0) rfl)))) (fun _ h9 => h9) rfl dX11_see_39 ?_
  refine lv_aload_n hx hb dX11_see_42 rfl (lv_at hl 0 rfl) ?_
  refine va_get (D := G) (ci := 11) (v := .int 0) (C := RX11) (T := TX11) (N := 44) hx hb hts j_m_see_11 hown hE.K hP 0 rfl rfl 1 (by decide) (hts (.fieldLink RX11 92 "GossamerGateModel" "taped" "I") (List.mem_cons_of_mem _ (List.mem_append_left _ (List.mem_of_getElem? (i := 1) rfl)))) (fun _ h9 => h9) rfl dX11_see_43 ?_
  refine lv_icmp_ge (tgt := 65) hx hb dX11_see_46 (by decide) (fun _ => ?_) (fun h9 => absurd h9 (by decide))
  refine lv_iconst (v := (-1)) hx hb dX11_see_65 (by decide) ?_
  exact W.iret (v := (-1)) hx hb hr (fun t ht hW => ⟨(-1), rfl, rfl, ht⟩) (fun _ h9 => absurd h9 List.not_mem_nil) dX11_see_66
set_option maxHeartbeats 4000000 in
set_option maxRecDepth 100000 in
theorem m_isLetter (l : Launch) (G : va_G) (k : Nat → ClassId) (sa : Nat → Nat) (h0 : Nat) (v : Nat → Nat) (tx : Int32) (wr : Int32) : Met l yX11_isLetter vs_m_isLetter ({ frames := 0, cells := 0, slots := 0, locals := 0 } : Room) (gR G k sa [.ref h0, .int 0] [(h0, .inr (11, [.ref (v 0), .int 0, .int 0, .ref (v 3), .ref (v 4), .ref (v 5), .ref (v 6), .ref (v 7), .int 0, .int wr, .int 0, .int tx, .int 0, .int 0, .int 0, .ref (v 15), .int 0, .ref (v 17), .int 0, .ref (v 19), .ref (v 20), .int (-1), .int 0, .ref (v 23), .int (-1), .int (-1), .int (-1), .int 0, .int (-1), .int 0, .ref (v 30), .int 0, .ref (v 32), .int 0, .int 0, .ref (v 35), .ref (v 36), .ref (v 37), .ref (v 38), .long 0, .ref (v 40), .ref (v 41), .ref (v 42), .ref (v 43)]))]) (vp_Si (fun r => r = 0)) 0 0 (fun _ => False) := by
  refine gz_metR (cc := cX11_isLetter) (maxL := 2) (ret := (some .boolean)) (by decide) rfl (Nat.le_of_ble_eq_true rfl) ?_
  intro p_ e_ s_ m below_ meth_ c_ ls hx hb hr hml hts hown hlocks hP hE hl
  have hl : lv_has ls 2 [(0, .ref h0), (1, .int 0)] := hl
  refine lv_iload_n hx hb dX11_isLetter_0 rfl (lv_at hl 1 rfl) ?_
  refine lv_aload_n hx hb dX11_isLetter_1 rfl (lv_at hl 0 rfl) ?_
  refine va_get (D := G) (ci := 11) (v := .int 0) (C := RX11) (T := TX11) (N := 44) hx hb hts j_m_isLetter_11 hown hE.K hP 0 rfl rfl 1 (by decide) (hts (.fieldLink RX11 92 "GossamerGateModel" "taped" "I") (List.mem_cons_of_mem _ (List.mem_append_left _ (List.mem_of_getElem? (i := 0) rfl)))) (fun _ h9 => h9) rfl dX11_isLetter_2 ?_
  refine lv_icmp_ge (tgt := 34) hx hb dX11_isLetter_5 (by decide) (fun _ => ?_) (fun h9 => absurd h9 (by decide))
  refine lv_iconst (v := 0) hx hb dX11_isLetter_34 (by decide) ?_
  exact W.zret (v := 0) hx hb hr (by decide) (fun t ht hW => ⟨0, rfl, rfl, ht⟩) (fun _ h9 => absurd h9 List.not_mem_nil) dX11_isLetter_35
set_option maxHeartbeats 4000000 in
set_option maxRecDepth 100000 in
theorem m_isWord (l : Launch) (G : va_G) (k : Nat → ClassId) (sa : Nat → Nat) (h0 : Nat) (v : Nat → Nat) (tx : Int32) (wr : Int32) (lw : Int64) : Met l yX11_isWord vs_m_isWord ({ frames := 1, cells := 0, slots := 0, locals := 21 } : Room) (gR G k sa [.ref h0, .long lw] [(h0, .inr (11, [.ref (v 0), .int 0, .int 0, .ref (v 3), .ref (v 4), .ref (v 5), .ref (v 6), .ref (v 7), .int 0, .int wr, .int 0, .int tx, .int 0, .int 0, .int 0, .ref (v 15), .int 0, .ref (v 17), .int 0, .ref (v 19), .ref (v 20), .int (-1), .int 0, .ref (v 23), .int (-1), .int (-1), .int (-1), .int 0, .int (-1), .int 0, .ref (v 30), .int 0, .ref (v 32), .int 0, .int 0, .ref (v 35), .ref (v 36), .ref (v 37), .ref (v 38), .long 0, .ref (v 40), .ref (v 41), .ref (v 42), .ref (v 43)]))]) (vp_Si (fun r => r = 0)) 0 0 (fun _ => False) := by
  refine gz_metR (cc := cX11_isWord) (maxL := 6) (ret := (some .boolean)) (by decide) rfl (Nat.le_of_ble_eq_true rfl) ?_
  intro p_ e_ s_ m below_ meth_ c_ ls hx hb hr hml hts hown hlocks hP hE hl
  have hl : lv_has ls 6 [(0, .ref h0), (1, .long lw)] := hl
  refine lv_aload_n hx hb dX11_isWord_0 rfl (lv_at hl 0 rfl) ?_
  refine vp_callSi (W.runV (As := []) (rest := []) ⟨hx, hb, hml, hown, hts⟩ (m_see l G k sa h0 v tx wr) (cwV 0 hts g_m_isWord_105_m_see rfl rfl rfl (by decide +kernel) ⟨(Nat.le_of_ble_eq_true rfl), (Nat.le_of_ble_eq_true rfl)⟩) ⟨gR.bl, va_recv hE.K hP (ci := 11) (q0 := 0) rfl rfl, (gR.pre (wc := [(h0, .inr (11, [.ref (v 0), .int 0, .int 0, .ref (v 3), .ref (v 4), .ref (v 5), .ref (v 6), .ref (v 7), .int 0, .int wr, .int 0, .int tx, .int 0, .int 0, .int 0, .ref (v 15), .int 0, .ref (v 17), .int 0, .ref (v 19), .ref (v 20), .int (-1), .int 0, .ref (v 23), .int (-1), .int (-1), .int (-1), .int 0, .int (-1), .int 0, .ref (v 30), .int 0, .ref (v 32), .int 0, .int 0, .ref (v 35), .ref (v 36), .ref (v 37), .ref (v 38), .long 0, .ref (v 40), .ref (v 41), .ref (v 42), .ref (v 43)]))]) hE hP [0] rfl)⟩ rfl rfl hl.1 rfl (lv_room (Nat.le_of_ble_eq_true rfl)) dX11_isWord_1 ⟨(Nat.le_of_ble_eq_true rfl), (Nat.le_of_ble_eq_true rfl)⟩) (fun r_1 hr_1 => ?_)
  obtain rfl : r_1 = (-1) := hr_1
  refine lv_pop hx hb dX11_isWord_4 rfl ?_
  refine lv_lconst (v := 0) hx hb dX11_isWord_5 (by decide) ?_
  refine lv_lstore_n (lv' := [(3, .long 0), (0, .ref h0), (1, .long lw)]) hx hb dX11_isWord_6 rfl hl (by decide) rfl (fun ls hl => ?_)
  refine lv_iconst (v := 0) hx hb dX11_isWord_7 (by decide) ?_
  refine lv_istore (lv' := [(5, .int 0), (3, .long 0), (0, .ref h0), (1, .long lw)]) hx hb dX11_isWord_8 hl (by decide) rfl (fun ls hl => ?_)
  refine lv_aload_n hx hb dX11_isWord_10 rfl (lv_at hl 2 rfl) ?_
  refine lv_aload_n hx hb dX11_isWord_11 rfl (lv_at hl 2 rfl) ?_
  refine va_get (D := G) (ci := 11) (v := .int 0) (C := RX11) (T := TX11) (N := 44) hx hb hts j_m_isWord_11 hown hE.K hP 0 rfl rfl 8 (by decide) (hts (.fieldLink RX11 102 "GossamerGateModel" "next" "I") (List.mem_cons_of_mem _ (List.mem_append_left _ (List.mem_of_getElem? (i := 4) rfl)))) (fun _ h9 => h9) rfl dX11_isWord_12 ?_
  refine lv_iload hx hb dX11_isWord_15 (lv_at hl 0 rfl) ?_
  refine lv_iadd hx hb dX11_isWord_17 ?_
  refine gz_ni (v := 0) (by decide) ?_
  refine vp_callSi (W.runV (As := [.int 0]) (rest := []) ⟨hx, hb, hml, hown, hts⟩ (m_isLetter l G k sa h0 v tx wr) (cwV 1 hts g_m_isWord_109_m_isLetter rfl rfl rfl (by decide +kernel) ⟨(Nat.le_of_ble_eq_true rfl), (Nat.le_of_ble_eq_true rfl)⟩) ⟨gR.bl, va_recv hE.K hP (ci := 11) (q0 := 0) rfl rfl, (gR.pre (wc := [(h0, .inr (11, [.ref (v 0), .int 0, .int 0, .ref (v 3), .ref (v 4), .ref (v 5), .ref (v 6), .ref (v 7), .int 0, .int wr, .int 0, .int tx, .int 0, .int 0, .int 0, .ref (v 15), .int 0, .ref (v 17), .int 0, .ref (v 19), .ref (v 20), .int (-1), .int 0, .ref (v 23), .int (-1), .int (-1), .int (-1), .int 0, .int (-1), .int 0, .ref (v 30), .int 0, .ref (v 32), .int 0, .int 0, .ref (v 35), .ref (v 36), .ref (v 37), .ref (v 38), .long 0, .ref (v 40), .ref (v 41), .ref (v 42), .ref (v 43)]))]) hE hP [0] rfl)⟩ rfl rfl hl.1 rfl (lv_room (Nat.le_of_ble_eq_true rfl)) dX11_isWord_18 ⟨(Nat.le_of_ble_eq_true rfl), (Nat.le_of_ble_eq_true rfl)⟩) (fun r_2 hr_2 => ?_)
  obtain rfl : r_2 = 0 := hr_2
  refine lv_if_eq (tgt := 56) hx hb dX11_isWord_21 (by decide) (fun _ => ?_) (fun h9 => absurd h9 (by decide))
  refine lv_iload hx hb dX11_isWord_56 (lv_at hl 0 rfl) ?_
  refine lv_if_le (tgt := 78) hx hb dX11_isWord_58 (by decide) (fun _ => ?_) (fun h9 => absurd h9 (by decide))
  refine lv_iconst (v := 0) hx hb dX11_isWord_78 (by decide) ?_
  exact W.zret (v := 0) hx hb hr (by decide) (fun t ht hW => ⟨0, rfl, rfl, ht⟩) (fun _ h9 => absurd h9 List.not_mem_nil) dX11_isWord_79
set_option maxHeartbeats 4000000 in
set_option maxRecDepth 100000 in
theorem m_isCountryWord (l : Launch) (G : va_G) (k : Nat → ClassId) (sa : Nat → Nat) (h0 : Nat) (v : Nat → Nat) (tx : Int32) (wr : Int32) : Met l yX11_isCountryWord vs_m_isCountryWord ({ frames := 2, cells := 0, slots := 0, locals := 46 } : Room) (gR G k sa [.ref h0] [(h0, .inr (11, [.ref (v 0), .int 0, .int 0, .ref (v 3), .ref (v 4), .ref (v 5), .ref (v 6), .ref (v 7), .int 0, .int wr, .int 0, .int tx, .int 0, .int 0, .int 0, .ref (v 15), .int 0, .ref (v 17), .int 0, .ref (v 19), .ref (v 20), .int (-1), .int 0, .ref (v 23), .int (-1), .int (-1), .int (-1), .int 0, .int (-1), .int 0, .ref (v 30), .int 0, .ref (v 32), .int 0, .int 0, .ref (v 35), .ref (v 36), .ref (v 37), .ref (v 38), .long 0, .ref (v 40), .ref (v 41), .ref (v 42), .ref (v 43)]))]) (vp_Si (fun r => r = 0)) 0 0 (fun _ => False) := by
  refine gz_metR (cc := cX11_isCountryWord) (maxL := 1) (ret := (some .boolean)) (by decide) rfl (Nat.le_of_ble_eq_true rfl) ?_
  intro p_ e_ s_ m below_ meth_ c_ ls hx hb hr hml hts hown hlocks hP hE hl
  have hl : lv_has ls 1 [(0, .ref h0)] := hl
  refine lv_aload_n hx hb dX11_isCountryWord_0 rfl (lv_at hl 0 rfl) ?_
  refine lv_ldc2 (v := 27988572849336953) hx hb hown (hts (.constantLong RX11 237 (27988572849336953)) (List.mem_cons_of_mem _ (List.mem_append_left _ (List.mem_of_getElem? (i := 0) rfl)))) dX11_isCountryWord_1 ?_
  refine vp_callSi (W.runV (As := [.long 27988572849336953]) (rest := []) ⟨hx, hb, hml, hown, hts⟩ (m_isWord l G k sa h0 v tx wr 27988572849336953) (cwV 1 hts g_m_isCountryWord_113_m_isWord rfl rfl rfl (by decide +kernel) ⟨(Nat.le_of_ble_eq_true rfl), (Nat.le_of_ble_eq_true rfl)⟩) ⟨gR.bl, va_recv hE.K hP (ci := 11) (q0 := 0) rfl rfl, (gR.pre (wc := [(h0, .inr (11, [.ref (v 0), .int 0, .int 0, .ref (v 3), .ref (v 4), .ref (v 5), .ref (v 6), .ref (v 7), .int 0, .int wr, .int 0, .int tx, .int 0, .int 0, .int 0, .ref (v 15), .int 0, .ref (v 17), .int 0, .ref (v 19), .ref (v 20), .int (-1), .int 0, .ref (v 23), .int (-1), .int (-1), .int (-1), .int 0, .int (-1), .int 0, .ref (v 30), .int 0, .ref (v 32), .int 0, .int 0, .ref (v 35), .ref (v 36), .ref (v 37), .ref (v 38), .long 0, .ref (v 40), .ref (v 41), .ref (v 42), .ref (v 43)]))]) hE hP [0] rfl)⟩ rfl rfl hl.1 rfl (lv_room (Nat.le_of_ble_eq_true rfl)) dX11_isCountryWord_4 ⟨(Nat.le_of_ble_eq_true rfl), (Nat.le_of_ble_eq_true rfl)⟩) (fun r_1 hr_1 => ?_)
  obtain rfl : r_1 = 0 := hr_1
  refine lv_if_ne (tgt := 40) hx hb dX11_isCountryWord_7 (by decide) (fun h9 => absurd h9 (by decide)) (fun _ => ?_)
  refine lv_aload_n hx hb dX11_isCountryWord_10 rfl (lv_at hl 0 rfl) ?_
  refine lv_ldc2 (v := 2003398244) hx hb hown (hts (.constantLong RX11 242 (2003398244)) (List.mem_cons_of_mem _ (List.mem_append_left _ (List.mem_of_getElem? (i := 5) rfl)))) dX11_isCountryWord_11 ?_
  refine vp_callSi (W.runV (As := [.long 2003398244]) (rest := []) ⟨hx, hb, hml, hown, hts⟩ (m_isWord l G k sa h0 v tx wr 2003398244) (cwV 1 hts g_m_isCountryWord_113_m_isWord rfl rfl rfl (by decide +kernel) ⟨(Nat.le_of_ble_eq_true rfl), (Nat.le_of_ble_eq_true rfl)⟩) ⟨gR.bl, va_recv hE.K hP (ci := 11) (q0 := 0) rfl rfl, (gR.pre (wc := [(h0, .inr (11, [.ref (v 0), .int 0, .int 0, .ref (v 3), .ref (v 4), .ref (v 5), .ref (v 6), .ref (v 7), .int 0, .int wr, .int 0, .int tx, .int 0, .int 0, .int 0, .ref (v 15), .int 0, .ref (v 17), .int 0, .ref (v 19), .ref (v 20), .int (-1), .int 0, .ref (v 23), .int (-1), .int (-1), .int (-1), .int 0, .int (-1), .int 0, .ref (v 30), .int 0, .ref (v 32), .int 0, .int 0, .ref (v 35), .ref (v 36), .ref (v 37), .ref (v 38), .long 0, .ref (v 40), .ref (v 41), .ref (v 42), .ref (v 43)]))]) hE hP [0] rfl)⟩ rfl rfl hl.1 rfl (lv_room (Nat.le_of_ble_eq_true rfl)) dX11_isCountryWord_14 ⟨(Nat.le_of_ble_eq_true rfl), (Nat.le_of_ble_eq_true rfl)⟩) (fun r_2 hr_2 => ?_)
  obtain rfl : r_2 = 0 := hr_2
  refine lv_if_ne (tgt := 40) hx hb dX11_isCountryWord_17 (by decide) (fun h9 => absurd h9 (by decide)) (fun _ => ?_)
  refine lv_aload_n hx hb dX11_isCountryWord_20 rfl (lv_at hl 0 rfl) ?_
  refine lv_ldc2 (v := 123581014175598) hx hb hown (hts (.constantLong RX11 134 (123581014175598)) (List.mem_cons_of_mem _ (List.mem_append_left _ (List.mem_of_getElem? (i := 6) rfl)))) dX11_isCountryWord_21 ?_
  refine vp_callSi (W.runV (As := [.long 123581014175598]) (rest := []) ⟨hx, hb, hml, hown, hts⟩ (m_isWord l G k sa h0 v tx wr 123581014175598) (cwV 1 hts g_m_isCountryWord_113_m_isWord rfl rfl rfl (by decide +kernel) ⟨(Nat.le_of_ble_eq_true rfl), (Nat.le_of_ble_eq_true rfl)⟩) ⟨gR.bl, va_recv hE.K hP (ci := 11) (q0 := 0) rfl rfl, (gR.pre (wc := [(h0, .inr (11, [.ref (v 0), .int 0, .int 0, .ref (v 3), .ref (v 4), .ref (v 5), .ref (v 6), .ref (v 7), .int 0, .int wr, .int 0, .int tx, .int 0, .int 0, .int 0, .ref (v 15), .int 0, .ref (v 17), .int 0, .ref (v 19), .ref (v 20), .int (-1), .int 0, .ref (v 23), .int (-1), .int (-1), .int (-1), .int 0, .int (-1), .int 0, .ref (v 30), .int 0, .ref (v 32), .int 0, .int 0, .ref (v 35), .ref (v 36), .ref (v 37), .ref (v 38), .long 0, .ref (v 40), .ref (v 41), .ref (v 42), .ref (v 43)]))]) hE hP [0] rfl)⟩ rfl rfl hl.1 rfl (lv_room (Nat.le_of_ble_eq_true rfl)) dX11_isCountryWord_24 ⟨(Nat.le_of_ble_eq_true rfl), (Nat.le_of_ble_eq_true rfl)⟩) (fun r_3 hr_3 => ?_)
  obtain rfl : r_3 = 0 := hr_3
  refine lv_if_ne (tgt := 40) hx hb dX11_isCountryWord_27 (by decide) (fun h9 => absurd h9 (by decide)) (fun _ => ?_)
  refine lv_aload_n hx hb dX11_isCountryWord_30 rfl (lv_at hl 0 rfl) ?_
  refine lv_ldc2 (v := 1734440037) hx hb hown (hts (.constantLong RX11 253 (1734440037)) (List.mem_cons_of_mem _ (List.mem_append_left _ (List.mem_of_getElem? (i := 7) rfl)))) dX11_isCountryWord_31 ?_
  refine vp_callSi (W.runV (As := [.long 1734440037]) (rest := []) ⟨hx, hb, hml, hown, hts⟩ (m_isWord l G k sa h0 v tx wr 1734440037) (cwV 1 hts g_m_isCountryWord_113_m_isWord rfl rfl rfl (by decide +kernel) ⟨(Nat.le_of_ble_eq_true rfl), (Nat.le_of_ble_eq_true rfl)⟩) ⟨gR.bl, va_recv hE.K hP (ci := 11) (q0 := 0) rfl rfl, (gR.pre (wc := [(h0, .inr (11, [.ref (v 0), .int 0, .int 0, .ref (v 3), .ref (v 4), .ref (v 5), .ref (v 6), .ref (v 7), .int 0, .int wr, .int 0, .int tx, .int 0, .int 0, .int 0, .ref (v 15), .int 0, .ref (v 17), .int 0, .ref (v 19), .ref (v 20), .int (-1), .int 0, .ref (v 23), .int (-1), .int (-1), .int (-1), .int 0, .int (-1), .int 0, .ref (v 30), .int 0, .ref (v 32), .int 0, .int 0, .ref (v 35), .ref (v 36), .ref (v 37), .ref (v 38), .long 0, .ref (v 40), .ref (v 41), .ref (v 42), .ref (v 43)]))]) hE hP [0] rfl)⟩ rfl rfl hl.1 rfl (lv_room (Nat.le_of_ble_eq_true rfl)) dX11_isCountryWord_34 ⟨(Nat.le_of_ble_eq_true rfl), (Nat.le_of_ble_eq_true rfl)⟩) (fun r_4 hr_4 => ?_)
  obtain rfl : r_4 = 0 := hr_4
  refine lv_if_eq (tgt := 44) hx hb dX11_isCountryWord_37 (by decide) (fun _ => ?_) (fun h9 => absurd h9 (by decide))
  refine lv_iconst (v := 0) hx hb dX11_isCountryWord_44 (by decide) ?_
  exact W.zret (v := 0) hx hb hr (by decide) (fun t ht hW => ⟨0, rfl, rfl, ht⟩) (fun _ h9 => absurd h9 List.not_mem_nil) dX11_isCountryWord_45
set_option maxHeartbeats 4000000 in
set_option maxRecDepth 100000 in
theorem m_fails (l : Launch) (G : va_G) (k : Nat → ClassId) (sa : Nat → Nat) (sz : Nat) (h0 : Nat) (v : Nat → Nat) (tx : Int32) : Met l yX11_fails vs_m_fails ({ frames := 0, cells := 0, slots := 0, locals := 0 } : Room) (gP G k sa [.ref h0, .int 0, .int 0] [(h0, .inr (11, [.ref (v 0), .int 0, .int 0, .ref (v 3), .ref (v 4), .ref (v 5), .ref (v 6), .ref (v 7), .int 0, .int 0, .int 0, .int tx, .int 0, .int 0, .int 0, .ref (v 15), .int 0, .ref (v 17), .int 0, .ref (v 19), .ref (v 20), .int (-1), .int 0, .ref (v 23), .int (-1), .int (-1), .int (-1), .int 0, .int (-1), .int 0, .ref (v 30), .int 0, .ref (v 32), .int 0, .int 0, .ref (v 35), .ref (v 36), .ref (v 37), .ref (v 38), .long 0, .ref (v 40), .ref (v 41), .ref (v 42), .ref (v 43)]))] sz) (va_Qi (fun r (_ : Nat → Nat) => r = 0) (gO G (va_A ([(h0, .inr (11, [.ref (v 0), .int 0, .int 0, .ref (v 3), .ref (v 4), .ref (v 5), .ref (v 6), .ref (v 7), .int 0, .int 0, .int 0, .int tx, .int 0, .int 0, .int 0, .ref (v 15), .int 0, .ref (v 17), .int 0, .ref (v 19), .ref (v 20), .int (-1), .int 0, .ref (v 23), .int (-1), .int (-1), .int (-1), .int 0, .int (-1), .int 0, .ref (v 30), .int 0, .ref (v 32), .int 0, .int 0, .ref (v 35), .ref (v 36), .ref (v 37), .ref (v 38), .long 0, .ref (v 40), .ref (v 41), .ref (v 42), .ref (v 43)]))]) sz) (fun u => [(h0, .inr (11, [.ref (v 0), .int 0, .int 0, .ref (v 3), .ref (v 4), .ref (v 5), .ref (v 6), .ref (v 7), .int 0, .int 1, .int 0, .int tx, .int 0, .int 0, .int 0, .ref (v 15), .int 0, .ref (v 17), .int 0, .ref (v 19), .ref (v 20), .int (-1), .int 0, .ref (v 23), .int (-1), .int (-1), .int (-1), .int 0, .int (-1), .int 0, .ref (v 30), .int 0, .ref (v 32), .int 0, .int 0, .ref (v 35), .ref (v 36), .ref (v 37), .ref (v 38), .long 0, .ref (v 40), .ref (v 41), .ref (v 42), .ref (v 43)]))])) (va_A ([(h0, .inr (11, [.ref (v 0), .int 0, .int 0, .ref (v 3), .ref (v 4), .ref (v 5), .ref (v 6), .ref (v 7), .int 0, .int 0, .int 0, .int tx, .int 0, .int 0, .int 0, .ref (v 15), .int 0, .ref (v 17), .int 0, .ref (v 19), .ref (v 20), .int (-1), .int 0, .ref (v 23), .int (-1), .int (-1), .int (-1), .int 0, .int (-1), .int 0, .ref (v 30), .int 0, .ref (v 32), .int 0, .int 0, .ref (v 35), .ref (v 36), .ref (v 37), .ref (v 38), .long 0, .ref (v 40), .ref (v 41), .ref (v 42), .ref (v 43)]))]) sz)) 0 0 (va_A ([(h0, .inr (11, [.ref (v 0), .int 0, .int 0, .ref (v 3), .ref (v 4), .ref (v 5), .ref (v 6), .ref (v 7), .int 0, .int 0, .int 0, .int tx, .int 0, .int 0, .int 0, .ref (v 15), .int 0, .ref (v 17), .int 0, .ref (v 19), .ref (v 20), .int (-1), .int 0, .ref (v 23), .int (-1), .int (-1), .int (-1), .int 0, .int (-1), .int 0, .ref (v 30), .int 0, .ref (v 32), .int 0, .int 0, .ref (v 35), .ref (v 36), .ref (v 37), .ref (v 38), .long 0, .ref (v 40), .ref (v 41), .ref (v 42), .ref (v 43)]))]) sz) := by
  refine gz_met (cc := cX11_fails) (maxL := 3) (ret := (some .boolean)) (by decide) rfl (Nat.le_of_ble_eq_true rfl) ?_
  intro p_ e_ s_ m below_ meth_ c_ ls hx hb hr hml hts hown hlocks hin hP hE hD hA hS
  generalize hAe : va_A ([(h0, .inr (11, [.ref (v 0), .int 0, .int 0, .ref (v 3), .ref (v 4), .ref (v 5), .ref (v 6), .ref (v 7), .int 0, .int 0, .int 0, .int tx, .int 0, .int 0, .int 0, .ref (v 15), .int 0, .ref (v 17), .int 0, .ref (v 19), .ref (v 20), .int (-1), .int 0, .ref (v 23), .int (-1), .int (-1), .int (-1), .int 0, .int (-1), .int 0, .ref (v 30), .int 0, .ref (v 32), .int 0, .int 0, .ref (v 35), .ref (v 36), .ref (v 37), .ref (v 38), .long 0, .ref (v 40), .ref (v 41), .ref (v 42), .ref (v 43)]))]) sz = A at hD hA hS ⊢
  intro hl
  have hl : lv_has ls 3 [(0, .ref h0), (1, .int 0), (2, .int 0)] := hl
  refine lv_aload_n hx hb dX11_fails_0 rfl (lv_at hl 0 rfl) ?_
  refine va_get (D := G) (ci := 11) (v := .int 0) (C := RX11) (T := TX11) (N := 44) hx hb hts j_m_fails_11 hown hE.K hP 0 rfl rfl 9 (by decide) (hts (.fieldLink RX11 99 "GossamerGateModel" "wrong" "I") (List.mem_cons_of_mem _ (List.mem_append_left _ (List.mem_of_getElem? (i := 0) rfl)))) (fun _ h9 => h9) rfl dX11_fails_1 ?_
  refine lv_if_ne (tgt := 19) hx hb dX11_fails_4 (by decide) (fun h9 => absurd h9 (by decide)) (fun _ => ?_)
  refine lv_aload_n hx hb dX11_fails_7 rfl (lv_at hl 0 rfl) ?_
  refine lv_iconst (v := 1) hx hb dX11_fails_8 (by decide) ?_
  refine lv_bipush (v := 8) hx hb dX11_fails_9 (by decide) ?_
  refine lv_iload_n hx hb dX11_fails_11 rfl (lv_at hl 2 rfl) ?_
  refine lv_imul hx hb dX11_fails_12 ?_
  refine gz_ni (v := 0) (by decide) ?_
  refine lv_iadd hx hb dX11_fails_13 ?_
  refine gz_ni (v := 1) (by decide) ?_
  refine lv_iload_n hx hb dX11_fails_14 rfl (lv_at hl 1 rfl) ?_
  refine lv_iadd hx hb dX11_fails_15 ?_
  refine gz_ni (v := 1) (by decide) ?_
  refine va_put (D := G) (ci := 11) (v := .int 1) (ty := .int) (C := RX11) (T := TX11) (N := 44) hx hb hts j_m_fails_11 tyX11 tyX11_ok nmX11 hown hE.K hP hD hS 0 rfl rfl 9 (by decide) (hts (.fieldLink RX11 99 "GossamerGateModel" "wrong" "I") (List.mem_cons_of_mem _ (List.mem_append_left _ (List.mem_of_getElem? (i := 0) rfl)))) (fun _ h9 => h9) rfl (by decide +kernel) rfl rfl (Nat.le_of_ble_eq_true rfl) dX11_fails_16 (fun H locs hP hD hS => ?_)
  have hP : va_P G vwCl [(h0, .inr (11, [.ref (v 0), .int 0, .int 0, .ref (v 3), .ref (v 4), .ref (v 5), .ref (v 6), .ref (v 7), .int 0, .int 1, .int 0, .int tx, .int 0, .int 0, .int 0, .ref (v 15), .int 0, .ref (v 17), .int 0, .ref (v 19), .ref (v 20), .int (-1), .int 0, .ref (v 23), .int (-1), .int (-1), .int (-1), .int 0, .int (-1), .int 0, .ref (v 30), .int 0, .ref (v 32), .int 0, .int 0, .ref (v 35), .ref (v 36), .ref (v 37), .ref (v 38), .long 0, .ref (v 40), .ref (v 41), .ref (v 42), .ref (v 43)]))] H := hP
  have hD : va_D A [(h0, .inr (11, [.ref (v 0), .int 0, .int 0, .ref (v 3), .ref (v 4), .ref (v 5), .ref (v 6), .ref (v 7), .int 0, .int 1, .int 0, .int tx, .int 0, .int 0, .int 0, .ref (v 15), .int 0, .ref (v 17), .int 0, .ref (v 19), .ref (v 20), .int (-1), .int 0, .ref (v 23), .int (-1), .int (-1), .int (-1), .int 0, .int (-1), .int 0, .ref (v 30), .int 0, .ref (v 32), .int 0, .int 0, .ref (v 35), .ref (v 36), .ref (v 37), .ref (v 38), .long 0, .ref (v 40), .ref (v 41), .ref (v 42), .ref (v 43)]))] := hD
  refine lv_iconst (v := 0) hx hb dX11_fails_19 (by decide) ?_
  have hP9 := hP.sub (ws' := [(h0, .inr (11, [.ref (v 0), .int 0, .int 0, .ref (v 3), .ref (v 4), .ref (v 5), .ref (v 6), .ref (v 7), .int 0, .int 1, .int 0, .int tx, .int 0, .int 0, .int 0, .ref (v 15), .int 0, .ref (v 17), .int 0, .ref (v 19), .ref (v 20), .int (-1), .int 0, .ref (v 23), .int (-1), .int (-1), .int (-1), .int 0, .int (-1), .int 0, .ref (v 30), .int 0, .ref (v 32), .int 0, .int 0, .ref (v 35), .ref (v 36), .ref (v 37), .ref (v 38), .long 0, .ref (v 40), .ref (v 41), .ref (v 42), .ref (v 43)]))]) [0] rfl
  have hD9 := hD.sub (ws' := [(h0, .inr (11, [.ref (v 0), .int 0, .int 0, .ref (v 3), .ref (v 4), .ref (v 5), .ref (v 6), .ref (v 7), .int 0, .int 1, .int 0, .int tx, .int 0, .int 0, .int 0, .ref (v 15), .int 0, .ref (v 17), .int 0, .ref (v 19), .ref (v 20), .int (-1), .int 0, .ref (v 23), .int (-1), .int (-1), .int (-1), .int 0, .int (-1), .int 0, .ref (v 30), .int 0, .ref (v 32), .int 0, .int 0, .ref (v 35), .ref (v 36), .ref (v 37), .ref (v 38), .long 0, .ref (v 40), .ref (v 41), .ref (v 42), .ref (v 43)]))]) [0] (by decide) rfl
  exact W.zret (v := 0) hx hb hr (by decide) (fun t ht hW => ⟨⟨0, (fun _ => 0), rfl, rfl, by rw [ht]; exact hP9, hD9⟩, hS.F ht⟩) hS.2.2 dX11_fails_20
set_option maxHeartbeats 4000000 in
set_option maxRecDepth 100000 in
theorem m_clauseHere_c (l : Launch) (G : va_G) (k : Nat → ClassId) (sa : Nat → Nat) (sz : Nat) (h0 : Nat) (v : Nat → Nat) : Met l yX11_clauseHere vs_m_clauseHere_c ({ frames := 3, cells := 0, slots := 0, locals := 66 } : Room) (gP G k sa [.ref h0] [(h0, .inr (11, [.ref (v 0), .int 0, .int 0, .ref (v 3), .ref (v 4), .ref (v 5), .ref (v 6), .ref (v 7), .int 0, .int 0, .int 0, .int 6, .int 0, .int 0, .int 0, .ref (v 15), .int 0, .ref (v 17), .int 0, .ref (v 19), .ref (v 20), .int (-1), .int 0, .ref (v 23), .int (-1), .int (-1), .int (-1), .int 0, .int (-1), .int 0, .ref (v 30), .int 0, .ref (v 32), .int 0, .int 0, .ref (v 35), .ref (v 36), .ref (v 37), .ref (v 38), .long 0, .ref (v 40), .ref (v 41), .ref (v 42), .ref (v 43)]))] sz) (va_Qi (fun r (_ : Nat → Nat) => r = 0) (gO G (va_A ([(h0, .inr (11, [.ref (v 0), .int 0, .int 0, .ref (v 3), .ref (v 4), .ref (v 5), .ref (v 6), .ref (v 7), .int 0, .int 0, .int 0, .int 6, .int 0, .int 0, .int 0, .ref (v 15), .int 0, .ref (v 17), .int 0, .ref (v 19), .ref (v 20), .int (-1), .int 0, .ref (v 23), .int (-1), .int (-1), .int (-1), .int 0, .int (-1), .int 0, .ref (v 30), .int 0, .ref (v 32), .int 0, .int 0, .ref (v 35), .ref (v 36), .ref (v 37), .ref (v 38), .long 0, .ref (v 40), .ref (v 41), .ref (v 42), .ref (v 43)]))]) sz) (fun u => [(h0, .inr (11, [.ref (v 0), .int 0, .int 0, .ref (v 3), .ref (v 4), .ref (v 5), .ref (v 6), .ref (v 7), .int 0, .int 1, .int 0, .int 6, .int 0, .int 0, .int 0, .ref (v 15), .int 0, .ref (v 17), .int 0, .ref (v 19), .ref (v 20), .int (-1), .int 0, .ref (v 23), .int (-1), .int (-1), .int (-1), .int 0, .int (-1), .int 0, .ref (v 30), .int 0, .ref (v 32), .int 0, .int 0, .ref (v 35), .ref (v 36), .ref (v 37), .ref (v 38), .long 0, .ref (v 40), .ref (v 41), .ref (v 42), .ref (v 43)]))])) (va_A ([(h0, .inr (11, [.ref (v 0), .int 0, .int 0, .ref (v 3), .ref (v 4), .ref (v 5), .ref (v 6), .ref (v 7), .int 0, .int 0, .int 0, .int 6, .int 0, .int 0, .int 0, .ref (v 15), .int 0, .ref (v 17), .int 0, .ref (v 19), .ref (v 20), .int (-1), .int 0, .ref (v 23), .int (-1), .int (-1), .int (-1), .int 0, .int (-1), .int 0, .ref (v 30), .int 0, .ref (v 32), .int 0, .int 0, .ref (v 35), .ref (v 36), .ref (v 37), .ref (v 38), .long 0, .ref (v 40), .ref (v 41), .ref (v 42), .ref (v 43)]))]) sz)) 0 0 (va_A ([(h0, .inr (11, [.ref (v 0), .int 0, .int 0, .ref (v 3), .ref (v 4), .ref (v 5), .ref (v 6), .ref (v 7), .int 0, .int 0, .int 0, .int 6, .int 0, .int 0, .int 0, .ref (v 15), .int 0, .ref (v 17), .int 0, .ref (v 19), .ref (v 20), .int (-1), .int 0, .ref (v 23), .int (-1), .int (-1), .int (-1), .int 0, .int (-1), .int 0, .ref (v 30), .int 0, .ref (v 32), .int 0, .int 0, .ref (v 35), .ref (v 36), .ref (v 37), .ref (v 38), .long 0, .ref (v 40), .ref (v 41), .ref (v 42), .ref (v 43)]))]) sz) := by
  refine gz_met (cc := cX11_clauseHere) (maxL := 3) (ret := (some .boolean)) (by decide) rfl (Nat.le_of_ble_eq_true rfl) ?_
  intro p_ e_ s_ m below_ meth_ c_ ls hx hb hr hml hts hown hlocks hin hP hE hD hA hS
  generalize hAe : va_A ([(h0, .inr (11, [.ref (v 0), .int 0, .int 0, .ref (v 3), .ref (v 4), .ref (v 5), .ref (v 6), .ref (v 7), .int 0, .int 0, .int 0, .int 6, .int 0, .int 0, .int 0, .ref (v 15), .int 0, .ref (v 17), .int 0, .ref (v 19), .ref (v 20), .int (-1), .int 0, .ref (v 23), .int (-1), .int (-1), .int (-1), .int 0, .int (-1), .int 0, .ref (v 30), .int 0, .ref (v 32), .int 0, .int 0, .ref (v 35), .ref (v 36), .ref (v 37), .ref (v 38), .long 0, .ref (v 40), .ref (v 41), .ref (v 42), .ref (v 43)]))]) sz = A at hD hA hS ⊢
  intro hl
  have hl : lv_has ls 3 [(0, .ref h0)] := hl
  refine lv_aload_n hx hb dX11_clauseHere_0 rfl (lv_at hl 0 rfl) ?_
  refine vp_callSi (W.runV (As := []) (rest := []) ⟨hx, hb, hml, hown, hts⟩ (m_see l G k sa h0 v 6 0) (cwV 0 hts g_m_clauseHere_c_105_m_see rfl rfl rfl (by decide +kernel) ⟨(Nat.le_of_ble_eq_true rfl), (Nat.le_of_ble_eq_true rfl)⟩) ⟨gR.bl, va_recv hE.K hP (ci := 11) (q0 := 0) rfl rfl, (gR.pre (wc := [(h0, .inr (11, [.ref (v 0), .int 0, .int 0, .ref (v 3), .ref (v 4), .ref (v 5), .ref (v 6), .ref (v 7), .int 0, .int 0, .int 0, .int 6, .int 0, .int 0, .int 0, .ref (v 15), .int 0, .ref (v 17), .int 0, .ref (v 19), .ref (v 20), .int (-1), .int 0, .ref (v 23), .int (-1), .int (-1), .int (-1), .int 0, .int (-1), .int 0, .ref (v 30), .int 0, .ref (v 32), .int 0, .int 0, .ref (v 35), .ref (v 36), .ref (v 37), .ref (v 38), .long 0, .ref (v 40), .ref (v 41), .ref (v 42), .ref (v 43)]))]) hE hP [0] rfl)⟩ rfl rfl hl.1 rfl (lv_room (Nat.le_of_ble_eq_true rfl)) dX11_clauseHere_1 ⟨(Nat.le_of_ble_eq_true rfl), (Nat.le_of_ble_eq_true rfl)⟩) (fun r_1 hr_1 => ?_)
  obtain rfl : r_1 = (-1) := hr_1
  refine lv_pop hx hb dX11_clauseHere_4 rfl ?_
  refine lv_aload_n hx hb dX11_clauseHere_5 rfl (lv_at hl 0 rfl) ?_
  refine va_get (D := G) (ci := 11) (v := .int 0) (C := RX11) (T := TX11) (N := 44) hx hb hts j_m_clauseHere_c_11 hown hE.K hP 0 rfl rfl 8 (by decide) (hts (.fieldLink RX11 102 "GossamerGateModel" "next" "I") (List.mem_cons_of_mem _ (List.mem_append_left _ (List.mem_of_getElem? (i := 4) rfl)))) (fun _ h9 => h9) rfl dX11_clauseHere_6 ?_
  refine lv_istore_n (lv' := [(1, .int 0), (0, .ref h0)]) hx hb dX11_clauseHere_9 rfl hl (by decide) rfl (fun ls hl => ?_)
  refine lv_aload_n hx hb dX11_clauseHere_10 rfl (lv_at hl 1 rfl) ?_
  refine va_get (D := G) (ci := 11) (v := .int 6) (C := RX11) (T := TX11) (N := 44) hx hb hts j_m_clauseHere_c_11 hown hE.K hP 0 rfl rfl 11 (by decide) (hts (.fieldLink RX11 158 "GossamerGateModel" "text" "I") (List.mem_cons_of_mem _ (List.mem_append_left _ (List.mem_of_getElem? (i := 5) rfl)))) (fun _ h9 => h9) rfl dX11_clauseHere_11 ?_
  refine lv_bipush (v := 6) hx hb dX11_clauseHere_14 (by decide) ?_
  refine lv_icmp_ne (tgt := 23) hx hb dX11_clauseHere_16 (by decide) (fun h9 => absurd h9 (by decide)) (fun _ => ?_)
  refine lv_iconst (v := 1) hx hb dX11_clauseHere_19 (by decide) ?_
  refine lv_goto (tgt := 24) hx hb dX11_clauseHere_20 (by decide) ?_
  refine lv_istore_n (lv' := [(2, .int 1), (1, .int 0), (0, .ref h0)]) hx hb dX11_clauseHere_24 rfl hl (by decide) rfl (fun ls hl => ?_)
  refine lv_iload_n hx hb dX11_clauseHere_25 rfl (lv_at hl 0 rfl) ?_
  refine lv_if_eq (tgt := 39) hx hb dX11_clauseHere_26 (by decide) (fun h9 => absurd h9 (by decide)) (fun _ => ?_)
  refine lv_aload_n hx hb dX11_clauseHere_29 rfl (lv_at hl 2 rfl) ?_
  refine vp_callSi (W.runV (As := []) (rest := []) ⟨hx, hb, hml, hown, hts⟩ (m_isCountryWord l G k sa h0 v 6 0) (cwV 0 hts g_m_clauseHere_c_255_m_isCountryWord rfl rfl rfl (by decide +kernel) ⟨(Nat.le_of_ble_eq_true rfl), (Nat.le_of_ble_eq_true rfl)⟩) ⟨gR.bl, va_recv hE.K hP (ci := 11) (q0 := 0) rfl rfl, (gR.pre (wc := [(h0, .inr (11, [.ref (v 0), .int 0, .int 0, .ref (v 3), .ref (v 4), .ref (v 5), .ref (v 6), .ref (v 7), .int 0, .int 0, .int 0, .int 6, .int 0, .int 0, .int 0, .ref (v 15), .int 0, .ref (v 17), .int 0, .ref (v 19), .ref (v 20), .int (-1), .int 0, .ref (v 23), .int (-1), .int (-1), .int (-1), .int 0, .int (-1), .int 0, .ref (v 30), .int 0, .ref (v 32), .int 0, .int 0, .ref (v 35), .ref (v 36), .ref (v 37), .ref (v 38), .long 0, .ref (v 40), .ref (v 41), .ref (v 42), .ref (v 43)]))]) hE hP [0] rfl)⟩ rfl rfl hl.1 rfl (lv_room (Nat.le_of_ble_eq_true rfl)) dX11_clauseHere_30 ⟨(Nat.le_of_ble_eq_true rfl), (Nat.le_of_ble_eq_true rfl)⟩) (fun r_2 hr_2 => ?_)
  obtain rfl : r_2 = 0 := hr_2
  refine lv_if_ne (tgt := 56) hx hb dX11_clauseHere_33 (by decide) (fun h9 => absurd h9 (by decide)) (fun _ => ?_)
  refine lv_goto (tgt := 49) hx hb dX11_clauseHere_36 (by decide) ?_
  refine lv_aload_n hx hb dX11_clauseHere_49 rfl (lv_at hl 2 rfl) ?_
  refine lv_iconst (v := 0) hx hb dX11_clauseHere_50 (by decide) ?_
  refine lv_iload_n hx hb dX11_clauseHere_51 rfl (lv_at hl 1 rfl) ?_
  refine gz_i (wc := [(h0, .inr (11, [.ref (v 0), .int 0, .int 0, .ref (v 3), .ref (v 4), .ref (v 5), .ref (v 6), .ref (v 7), .int 0, .int 0, .int 0, .int 6, .int 0, .int 0, .int 0, .ref (v 15), .int 0, .ref (v 17), .int 0, .ref (v 19), .ref (v 20), .int (-1), .int 0, .ref (v 23), .int (-1), .int (-1), .int (-1), .int 0, .int (-1), .int 0, .ref (v 30), .int 0, .ref (v 32), .int 0, .int 0, .ref (v 35), .ref (v 36), .ref (v 37), .ref (v 38), .long 0, .ref (v 40), .ref (v 41), .ref (v 42), .ref (v 43)]))]) (wr := []) hP hD hS hA [0] [] rfl rfl (by decide) (by decide) (va_runV (As := [.int 0, .int 0]) (rest := []) ⟨hx, hb, hml, hown, hts⟩ (m_fails l G k sa _ h0 v 6) (cwV 2 hts g_m_clauseHere_c_123_m_fails rfl rfl rfl (by decide +kernel) ⟨(Nat.le_of_ble_eq_true rfl), (Nat.le_of_ble_eq_true rfl)⟩) ⟨gP.bl, va_recv hE.K hP (ci := 11) (q0 := 0) rfl rfl, (gP.pre (wc := [(h0, .inr (11, [.ref (v 0), .int 0, .int 0, .ref (v 3), .ref (v 4), .ref (v 5), .ref (v 6), .ref (v 7), .int 0, .int 0, .int 0, .int 6, .int 0, .int 0, .int 0, .ref (v 15), .int 0, .ref (v 17), .int 0, .ref (v 19), .ref (v 20), .int (-1), .int 0, .ref (v 23), .int (-1), .int (-1), .int (-1), .int 0, .int (-1), .int 0, .ref (v 30), .int 0, .ref (v 32), .int 0, .int 0, .ref (v 35), .ref (v 36), .ref (v 37), .ref (v 38), .long 0, .ref (v 40), .ref (v 41), .ref (v 42), .ref (v 43)]))]) hE hP hD [0] rfl (by decide))⟩ rfl rfl hl.1 rfl (lv_room (Nat.le_of_ble_eq_true rfl)) dX11_clauseHere_52 ⟨(Nat.le_of_ble_eq_true rfl), (Nat.le_of_ble_eq_true rfl)⟩) (fun r_4 u_3 H locs hr_4 hP hD hS => ?_)
  have hP : va_P G vwCl [(h0, .inr (11, [.ref (v 0), .int 0, .int 0, .ref (v 3), .ref (v 4), .ref (v 5), .ref (v 6), .ref (v 7), .int 0, .int 1, .int 0, .int 6, .int 0, .int 0, .int 0, .ref (v 15), .int 0, .ref (v 17), .int 0, .ref (v 19), .ref (v 20), .int (-1), .int 0, .ref (v 23), .int (-1), .int (-1), .int (-1), .int 0, .int (-1), .int 0, .ref (v 30), .int 0, .ref (v 32), .int 0, .int 0, .ref (v 35), .ref (v 36), .ref (v 37), .ref (v 38), .long 0, .ref (v 40), .ref (v 41), .ref (v 42), .ref (v 43)]))] H := hP
  have hD : va_D A [(h0, .inr (11, [.ref (v 0), .int 0, .int 0, .ref (v 3), .ref (v 4), .ref (v 5), .ref (v 6), .ref (v 7), .int 0, .int 1, .int 0, .int 6, .int 0, .int 0, .int 0, .ref (v 15), .int 0, .ref (v 17), .int 0, .ref (v 19), .ref (v 20), .int (-1), .int 0, .ref (v 23), .int (-1), .int (-1), .int (-1), .int 0, .int (-1), .int 0, .ref (v 30), .int 0, .ref (v 32), .int 0, .int 0, .ref (v 35), .ref (v 36), .ref (v 37), .ref (v 38), .long 0, .ref (v 40), .ref (v 41), .ref (v 42), .ref (v 43)]))] := hD
  obtain rfl : r_4 = 0 := hr_4
  have hP9 := hP.sub (ws' := [(h0, .inr (11, [.ref (v 0), .int 0, .int 0, .ref (v 3), .ref (v 4), .ref (v 5), .ref (v 6), .ref (v 7), .int 0, .int 1, .int 0, .int 6, .int 0, .int 0, .int 0, .ref (v 15), .int 0, .ref (v 17), .int 0, .ref (v 19), .ref (v 20), .int (-1), .int 0, .ref (v 23), .int (-1), .int (-1), .int (-1), .int 0, .int (-1), .int 0, .ref (v 30), .int 0, .ref (v 32), .int 0, .int 0, .ref (v 35), .ref (v 36), .ref (v 37), .ref (v 38), .long 0, .ref (v 40), .ref (v 41), .ref (v 42), .ref (v 43)]))]) [0] rfl
  have hD9 := hD.sub (ws' := [(h0, .inr (11, [.ref (v 0), .int 0, .int 0, .ref (v 3), .ref (v 4), .ref (v 5), .ref (v 6), .ref (v 7), .int 0, .int 1, .int 0, .int 6, .int 0, .int 0, .int 0, .ref (v 15), .int 0, .ref (v 17), .int 0, .ref (v 19), .ref (v 20), .int (-1), .int 0, .ref (v 23), .int (-1), .int (-1), .int (-1), .int 0, .int (-1), .int 0, .ref (v 30), .int 0, .ref (v 32), .int 0, .int 0, .ref (v 35), .ref (v 36), .ref (v 37), .ref (v 38), .long 0, .ref (v 40), .ref (v 41), .ref (v 42), .ref (v 43)]))]) [0] (by decide) rfl
  exact W.zret (v := 0) hx hb hr (by decide) (fun t ht hW => ⟨⟨0, (fun _ => 0), rfl, rfl, by rw [ht]; exact hP9, hD9⟩, hS.F ht⟩) hS.2.2 dX11_clauseHere_55
set_option maxHeartbeats 4000000 in
set_option maxRecDepth 100000 in
theorem m_readsAll_c (l : Launch) (G : va_G) (k : Nat → ClassId) (sa : Nat → Nat) (sz : Nat) (h0 : Nat) (v : Nat → Nat) : Met l yX11_readsAll vs_m_readsAll_c ({ frames := 4, cells := 0, slots := 0, locals := 88 } : Room) (gP G k sa [.ref h0] [(h0, .inr (11, [.ref (v 0), .int 0, .int 0, .ref (v 3), .ref (v 4), .ref (v 5), .ref (v 6), .ref (v 7), .int 0, .int 0, .int 0, .int 6, .int 0, .int 0, .int 0, .ref (v 15), .int 0, .ref (v 17), .int 0, .ref (v 19), .ref (v 20), .int (-1), .int 0, .ref (v 23), .int (-1), .int (-1), .int (-1), .int 0, .int (-1), .int 0, .ref (v 30), .int 0, .ref (v 32), .int 0, .int 0, .ref (v 35), .ref (v 36), .ref (v 37), .ref (v 38), .long 0, .ref (v 40), .ref (v 41), .ref (v 42), .ref (v 43)])), (v 4, .inl (k 0, 7, .inl (fun _ => 0)))] sz) (va_Qi (fun r (_ : Nat → Nat) => r = 0) (gO G (va_A ([(h0, .inr (11, [.ref (v 0), .int 0, .int 0, .ref (v 3), .ref (v 4), .ref (v 5), .ref (v 6), .ref (v 7), .int 0, .int 0, .int 0, .int 6, .int 0, .int 0, .int 0, .ref (v 15), .int 0, .ref (v 17), .int 0, .ref (v 19), .ref (v 20), .int (-1), .int 0, .ref (v 23), .int (-1), .int (-1), .int (-1), .int 0, .int (-1), .int 0, .ref (v 30), .int 0, .ref (v 32), .int 0, .int 0, .ref (v 35), .ref (v 36), .ref (v 37), .ref (v 38), .long 0, .ref (v 40), .ref (v 41), .ref (v 42), .ref (v 43)])), (v 4, .inl (k 0, 7, .inl (fun _ => 0)))]) sz) (fun u => [(h0, .inr (11, [.ref (v 0), .int 0, .int 0, .ref (v 3), .ref (v 4), .ref (v 5), .ref (v 6), .ref (v 7), .int 0, .int 1, .int 0, .int 6, .int 0, .int 0, .int 0, .ref (v 15), .int 0, .ref (v 17), .int 0, .ref (v 19), .ref (v 20), .int (-1), .int 0, .ref (v 23), .int (-1), .int (-1), .int (-1), .int 0, .int (-1), .int 0, .ref (v 30), .int 0, .ref (v 32), .int 0, .int 0, .ref (v 35), .ref (v 36), .ref (v 37), .ref (v 38), .long 0, .ref (v 40), .ref (v 41), .ref (v 42), .ref (v 43)]))])) (va_A ([(h0, .inr (11, [.ref (v 0), .int 0, .int 0, .ref (v 3), .ref (v 4), .ref (v 5), .ref (v 6), .ref (v 7), .int 0, .int 0, .int 0, .int 6, .int 0, .int 0, .int 0, .ref (v 15), .int 0, .ref (v 17), .int 0, .ref (v 19), .ref (v 20), .int (-1), .int 0, .ref (v 23), .int (-1), .int (-1), .int (-1), .int 0, .int (-1), .int 0, .ref (v 30), .int 0, .ref (v 32), .int 0, .int 0, .ref (v 35), .ref (v 36), .ref (v 37), .ref (v 38), .long 0, .ref (v 40), .ref (v 41), .ref (v 42), .ref (v 43)])), (v 4, .inl (k 0, 7, .inl (fun _ => 0)))]) sz)) 0 0 (va_A ([(h0, .inr (11, [.ref (v 0), .int 0, .int 0, .ref (v 3), .ref (v 4), .ref (v 5), .ref (v 6), .ref (v 7), .int 0, .int 0, .int 0, .int 6, .int 0, .int 0, .int 0, .ref (v 15), .int 0, .ref (v 17), .int 0, .ref (v 19), .ref (v 20), .int (-1), .int 0, .ref (v 23), .int (-1), .int (-1), .int (-1), .int 0, .int (-1), .int 0, .ref (v 30), .int 0, .ref (v 32), .int 0, .int 0, .ref (v 35), .ref (v 36), .ref (v 37), .ref (v 38), .long 0, .ref (v 40), .ref (v 41), .ref (v 42), .ref (v 43)])), (v 4, .inl (k 0, 7, .inl (fun _ => 0)))]) sz) := by
  refine gz_met (cc := cX11_readsAll) (maxL := 2) (ret := (some .boolean)) (by decide) rfl (Nat.le_of_ble_eq_true rfl) ?_
  intro p_ e_ s_ m below_ meth_ c_ ls hx hb hr hml hts hown hlocks hin hP hE hD hA hS
  generalize hAe : va_A ([(h0, .inr (11, [.ref (v 0), .int 0, .int 0, .ref (v 3), .ref (v 4), .ref (v 5), .ref (v 6), .ref (v 7), .int 0, .int 0, .int 0, .int 6, .int 0, .int 0, .int 0, .ref (v 15), .int 0, .ref (v 17), .int 0, .ref (v 19), .ref (v 20), .int (-1), .int 0, .ref (v 23), .int (-1), .int (-1), .int (-1), .int 0, .int (-1), .int 0, .ref (v 30), .int 0, .ref (v 32), .int 0, .int 0, .ref (v 35), .ref (v 36), .ref (v 37), .ref (v 38), .long 0, .ref (v 40), .ref (v 41), .ref (v 42), .ref (v 43)])), (v 4, .inl (k 0, 7, .inl (fun _ => 0)))]) sz = A at hD hA hS ⊢
  intro hl
  have hl : lv_has ls 2 [(0, .ref h0)] := hl
  refine lv_aload_n hx hb dX11_readsAll_0 rfl (lv_at hl 0 rfl) ?_
  refine va_get (D := G) (ci := 11) (v := .ref (v 4)) (C := RX11) (T := TX11) (N := 44) hx hb hts j_m_readsAll_c_11 hown hE.K hP 0 rfl rfl 4 (by decide) (hts (.fieldLink RX11 17 "GossamerGateModel" "length" "[I") (List.mem_cons_of_mem _ (List.mem_append_left _ (List.mem_of_getElem? (i := 0) rfl)))) (fun _ h9 => h9) rfl dX11_readsAll_1 ?_
  refine lv_aload_n hx hb dX11_readsAll_4 rfl (lv_at hl 0 rfl) ?_
  refine va_get (D := G) (ci := 11) (v := .int 6) (C := RX11) (T := TX11) (N := 44) hx hb hts j_m_readsAll_c_11 hown hE.K hP 0 rfl rfl 11 (by decide) (hts (.fieldLink RX11 158 "GossamerGateModel" "text" "I") (List.mem_cons_of_mem _ (List.mem_append_left _ (List.mem_of_getElem? (i := 1) rfl)))) (fun _ h9 => h9) rfl dX11_readsAll_5 ?_
  refine lv_iconst (v := 0) hx hb dX11_readsAll_8 (by decide) ?_
  refine va_iast hx hb hE.K hP hD hS 1 0 rfl rfl (gz_in (by decide)) dX11_readsAll_9 (fun H locs hP hD hS => ?_)
  have hP : va_P G vwCl [(h0, .inr (11, [.ref (v 0), .int 0, .int 0, .ref (v 3), .ref (v 4), .ref (v 5), .ref (v 6), .ref (v 7), .int 0, .int 0, .int 0, .int 6, .int 0, .int 0, .int 0, .ref (v 15), .int 0, .ref (v 17), .int 0, .ref (v 19), .ref (v 20), .int (-1), .int 0, .ref (v 23), .int (-1), .int (-1), .int (-1), .int 0, .int (-1), .int 0, .ref (v 30), .int 0, .ref (v 32), .int 0, .int 0, .ref (v 35), .ref (v 36), .ref (v 37), .ref (v 38), .long 0, .ref (v 40), .ref (v 41), .ref (v 42), .ref (v 43)])), (v 4, .inl (k 0, 7, .inl (upd (fun _ => 0) 6 0)))] H := hP
  have hD : va_D A [(h0, .inr (11, [.ref (v 0), .int 0, .int 0, .ref (v 3), .ref (v 4), .ref (v 5), .ref (v 6), .ref (v 7), .int 0, .int 0, .int 0, .int 6, .int 0, .int 0, .int 0, .ref (v 15), .int 0, .ref (v 17), .int 0, .ref (v 19), .ref (v 20), .int (-1), .int 0, .ref (v 23), .int (-1), .int (-1), .int (-1), .int 0, .int (-1), .int 0, .ref (v 30), .int 0, .ref (v 32), .int 0, .int 0, .ref (v 35), .ref (v 36), .ref (v 37), .ref (v 38), .long 0, .ref (v 40), .ref (v 41), .ref (v 42), .ref (v 43)])), (v 4, .inl (k 0, 7, .inl (upd (fun _ => 0) 6 0)))] := hD
  refine lv_aload_n hx hb dX11_readsAll_10 rfl (lv_at hl 0 rfl) ?_
  refine lv_iconst (v := 0) hx hb dX11_readsAll_11 (by decide) ?_
  refine va_put (D := G) (ci := 11) (v := .int 0) (ty := .int) (C := RX11) (T := TX11) (N := 44) hx hb hts j_m_readsAll_c_11 tyX11 tyX11_ok nmX11 hown hE.K hP hD hS 0 rfl rfl 14 (by decide) (hts (.fieldLink RX11 260 "GossamerGateModel" "lines" "I") (List.mem_cons_of_mem _ (List.mem_append_left _ (List.mem_of_getElem? (i := 2) rfl)))) (fun _ h9 => h9) rfl (by decide +kernel) rfl rfl (Nat.le_of_ble_eq_true rfl) dX11_readsAll_12 (fun H locs hP hD hS => ?_)
  have hP : va_P G vwCl [(h0, .inr (11, [.ref (v 0), .int 0, .int 0, .ref (v 3), .ref (v 4), .ref (v 5), .ref (v 6), .ref (v 7), .int 0, .int 0, .int 0, .int 6, .int 0, .int 0, .int 0, .ref (v 15), .int 0, .ref (v 17), .int 0, .ref (v 19), .ref (v 20), .int (-1), .int 0, .ref (v 23), .int (-1), .int (-1), .int (-1), .int 0, .int (-1), .int 0, .ref (v 30), .int 0, .ref (v 32), .int 0, .int 0, .ref (v 35), .ref (v 36), .ref (v 37), .ref (v 38), .long 0, .ref (v 40), .ref (v 41), .ref (v 42), .ref (v 43)])), (v 4, .inl (k 0, 7, .inl (upd (fun _ => 0) 6 0)))] H := hP
  have hD : va_D A [(h0, .inr (11, [.ref (v 0), .int 0, .int 0, .ref (v 3), .ref (v 4), .ref (v 5), .ref (v 6), .ref (v 7), .int 0, .int 0, .int 0, .int 6, .int 0, .int 0, .int 0, .ref (v 15), .int 0, .ref (v 17), .int 0, .ref (v 19), .ref (v 20), .int (-1), .int 0, .ref (v 23), .int (-1), .int (-1), .int (-1), .int 0, .int (-1), .int 0, .ref (v 30), .int 0, .ref (v 32), .int 0, .int 0, .ref (v 35), .ref (v 36), .ref (v 37), .ref (v 38), .long 0, .ref (v 40), .ref (v 41), .ref (v 42), .ref (v 43)])), (v 4, .inl (k 0, 7, .inl (upd (fun _ => 0) 6 0)))] := hD
  refine lv_aload_n hx hb dX11_readsAll_15 rfl (lv_at hl 0 rfl) ?_
  refine lv_iconst (v := 0) hx hb dX11_readsAll_16 (by decide) ?_
  refine va_put (D := G) (ci := 11) (v := .int 0) (ty := .int) (C := RX11) (T := TX11) (N := 44) hx hb hts j_m_readsAll_c_11 tyX11 tyX11_ok nmX11 hown hE.K hP hD hS 0 rfl rfl 8 (by decide) (hts (.fieldLink RX11 102 "GossamerGateModel" "next" "I") (List.mem_cons_of_mem _ (List.mem_append_left _ (List.mem_of_getElem? (i := 3) rfl)))) (fun _ h9 => h9) rfl (by decide +kernel) rfl rfl (Nat.le_of_ble_eq_true rfl) dX11_readsAll_17 (fun H locs hP hD hS => ?_)
  have hP : va_P G vwCl [(h0, .inr (11, [.ref (v 0), .int 0, .int 0, .ref (v 3), .ref (v 4), .ref (v 5), .ref (v 6), .ref (v 7), .int 0, .int 0, .int 0, .int 6, .int 0, .int 0, .int 0, .ref (v 15), .int 0, .ref (v 17), .int 0, .ref (v 19), .ref (v 20), .int (-1), .int 0, .ref (v 23), .int (-1), .int (-1), .int (-1), .int 0, .int (-1), .int 0, .ref (v 30), .int 0, .ref (v 32), .int 0, .int 0, .ref (v 35), .ref (v 36), .ref (v 37), .ref (v 38), .long 0, .ref (v 40), .ref (v 41), .ref (v 42), .ref (v 43)])), (v 4, .inl (k 0, 7, .inl (upd (fun _ => 0) 6 0)))] H := hP
  have hD : va_D A [(h0, .inr (11, [.ref (v 0), .int 0, .int 0, .ref (v 3), .ref (v 4), .ref (v 5), .ref (v 6), .ref (v 7), .int 0, .int 0, .int 0, .int 6, .int 0, .int 0, .int 0, .ref (v 15), .int 0, .ref (v 17), .int 0, .ref (v 19), .ref (v 20), .int (-1), .int 0, .ref (v 23), .int (-1), .int (-1), .int (-1), .int 0, .int (-1), .int 0, .ref (v 30), .int 0, .ref (v 32), .int 0, .int 0, .ref (v 35), .ref (v 36), .ref (v 37), .ref (v 38), .long 0, .ref (v 40), .ref (v 41), .ref (v 42), .ref (v 43)])), (v 4, .inl (k 0, 7, .inl (upd (fun _ => 0) 6 0)))] := hD
  refine lv_aload_n hx hb dX11_readsAll_20 rfl (lv_at hl 0 rfl) ?_
  refine lv_iconst (v := 0) hx hb dX11_readsAll_21 (by decide) ?_
  refine va_put (D := G) (ci := 11) (v := .int 0) (ty := .int) (C := RX11) (T := TX11) (N := 44) hx hb hts j_m_readsAll_c_11 tyX11 tyX11_ok nmX11 hown hE.K hP hD hS 0 rfl rfl 9 (by decide) (hts (.fieldLink RX11 99 "GossamerGateModel" "wrong" "I") (List.mem_cons_of_mem _ (List.mem_append_left _ (List.mem_of_getElem? (i := 4) rfl)))) (fun _ h9 => h9) rfl (by decide +kernel) rfl rfl (Nat.le_of_ble_eq_true rfl) dX11_readsAll_22 (fun H locs hP hD hS => ?_)
  have hP : va_P G vwCl [(h0, .inr (11, [.ref (v 0), .int 0, .int 0, .ref (v 3), .ref (v 4), .ref (v 5), .ref (v 6), .ref (v 7), .int 0, .int 0, .int 0, .int 6, .int 0, .int 0, .int 0, .ref (v 15), .int 0, .ref (v 17), .int 0, .ref (v 19), .ref (v 20), .int (-1), .int 0, .ref (v 23), .int (-1), .int (-1), .int (-1), .int 0, .int (-1), .int 0, .ref (v 30), .int 0, .ref (v 32), .int 0, .int 0, .ref (v 35), .ref (v 36), .ref (v 37), .ref (v 38), .long 0, .ref (v 40), .ref (v 41), .ref (v 42), .ref (v 43)])), (v 4, .inl (k 0, 7, .inl (upd (fun _ => 0) 6 0)))] H := hP
  have hD : va_D A [(h0, .inr (11, [.ref (v 0), .int 0, .int 0, .ref (v 3), .ref (v 4), .ref (v 5), .ref (v 6), .ref (v 7), .int 0, .int 0, .int 0, .int 6, .int 0, .int 0, .int 0, .ref (v 15), .int 0, .ref (v 17), .int 0, .ref (v 19), .ref (v 20), .int (-1), .int 0, .ref (v 23), .int (-1), .int (-1), .int (-1), .int 0, .int (-1), .int 0, .ref (v 30), .int 0, .ref (v 32), .int 0, .int 0, .ref (v 35), .ref (v 36), .ref (v 37), .ref (v 38), .long 0, .ref (v 40), .ref (v 41), .ref (v 42), .ref (v 43)])), (v 4, .inl (k 0, 7, .inl (upd (fun _ => 0) 6 0)))] := hD
  refine lv_aload_n hx hb dX11_readsAll_25 rfl (lv_at hl 0 rfl) ?_
  refine lv_iconst (v := 0) hx hb dX11_readsAll_26 (by decide) ?_
  refine va_put (D := G) (ci := 11) (v := .int 0) (ty := .int) (C := RX11) (T := TX11) (N := 44) hx hb hts j_m_readsAll_c_11 tyX11 tyX11_ok nmX11 hown hE.K hP hD hS 0 rfl rfl 12 (by decide) (hts (.fieldLink RX11 161 "GossamerGateModel" "made" "I") (List.mem_cons_of_mem _ (List.mem_append_left _ (List.mem_of_getElem? (i := 5) rfl)))) (fun _ h9 => h9) rfl (by decide +kernel) rfl rfl (Nat.le_of_ble_eq_true rfl) dX11_readsAll_27 (fun H locs hP hD hS => ?_)
  have hP : va_P G vwCl [(h0, .inr (11, [.ref (v 0), .int 0, .int 0, .ref (v 3), .ref (v 4), .ref (v 5), .ref (v 6), .ref (v 7), .int 0, .int 0, .int 0, .int 6, .int 0, .int 0, .int 0, .ref (v 15), .int 0, .ref (v 17), .int 0, .ref (v 19), .ref (v 20), .int (-1), .int 0, .ref (v 23), .int (-1), .int (-1), .int (-1), .int 0, .int (-1), .int 0, .ref (v 30), .int 0, .ref (v 32), .int 0, .int 0, .ref (v 35), .ref (v 36), .ref (v 37), .ref (v 38), .long 0, .ref (v 40), .ref (v 41), .ref (v 42), .ref (v 43)])), (v 4, .inl (k 0, 7, .inl (upd (fun _ => 0) 6 0)))] H := hP
  have hD : va_D A [(h0, .inr (11, [.ref (v 0), .int 0, .int 0, .ref (v 3), .ref (v 4), .ref (v 5), .ref (v 6), .ref (v 7), .int 0, .int 0, .int 0, .int 6, .int 0, .int 0, .int 0, .ref (v 15), .int 0, .ref (v 17), .int 0, .ref (v 19), .ref (v 20), .int (-1), .int 0, .ref (v 23), .int (-1), .int (-1), .int (-1), .int 0, .int (-1), .int 0, .ref (v 30), .int 0, .ref (v 32), .int 0, .int 0, .ref (v 35), .ref (v 36), .ref (v 37), .ref (v 38), .long 0, .ref (v 40), .ref (v 41), .ref (v 42), .ref (v 43)])), (v 4, .inl (k 0, 7, .inl (upd (fun _ => 0) 6 0)))] := hD
  refine lv_aload_n hx hb dX11_readsAll_30 rfl (lv_at hl 0 rfl) ?_
  refine gz_i (wc := [(h0, .inr (11, [.ref (v 0), .int 0, .int 0, .ref (v 3), .ref (v 4), .ref (v 5), .ref (v 6), .ref (v 7), .int 0, .int 0, .int 0, .int 6, .int 0, .int 0, .int 0, .ref (v 15), .int 0, .ref (v 17), .int 0, .ref (v 19), .ref (v 20), .int (-1), .int 0, .ref (v 23), .int (-1), .int (-1), .int (-1), .int 0, .int (-1), .int 0, .ref (v 30), .int 0, .ref (v 32), .int 0, .int 0, .ref (v 35), .ref (v 36), .ref (v 37), .ref (v 38), .long 0, .ref (v 40), .ref (v 41), .ref (v 42), .ref (v 43)]))]) (wr := [(v 4, .inl (k 0, 7, .inl (upd (fun _ => 0) 6 0)))]) hP hD hS hA [0] [1] rfl rfl (by decide) (by decide) (va_runV (As := []) (rest := []) ⟨hx, hb, hml, hown, hts⟩ (m_clauseHere_c l G k sa _ h0 v) (cwV 0 hts g_m_readsAll_c_269_m_clauseHere_c rfl rfl rfl (by decide +kernel) ⟨(Nat.le_of_ble_eq_true rfl), (Nat.le_of_ble_eq_true rfl)⟩) ⟨gP.bl, va_recv hE.K hP (ci := 11) (q0 := 0) rfl rfl, (gP.pre (wc := [(h0, .inr (11, [.ref (v 0), .int 0, .int 0, .ref (v 3), .ref (v 4), .ref (v 5), .ref (v 6), .ref (v 7), .int 0, .int 0, .int 0, .int 6, .int 0, .int 0, .int 0, .ref (v 15), .int 0, .ref (v 17), .int 0, .ref (v 19), .ref (v 20), .int (-1), .int 0, .ref (v 23), .int (-1), .int (-1), .int (-1), .int 0, .int (-1), .int 0, .ref (v 30), .int 0, .ref (v 32), .int 0, .int 0, .ref (v 35), .ref (v 36), .ref (v 37), .ref (v 38), .long 0, .ref (v 40), .ref (v 41), .ref (v 42), .ref (v 43)]))]) hE hP hD [0] rfl (by decide))⟩ rfl rfl hl.1 rfl (lv_room (Nat.le_of_ble_eq_true rfl)) dX11_readsAll_31 ⟨(Nat.le_of_ble_eq_true rfl), (Nat.le_of_ble_eq_true rfl)⟩) (fun r_2 u_1 H locs hr_2 hP hD hS => ?_)
  have hP : va_P G vwCl [(v 4, .inl (k 0, 7, .inl (upd (fun _ => 0) 6 0))), (h0, .inr (11, [.ref (v 0), .int 0, .int 0, .ref (v 3), .ref (v 4), .ref (v 5), .ref (v 6), .ref (v 7), .int 0, .int 1, .int 0, .int 6, .int 0, .int 0, .int 0, .ref (v 15), .int 0, .ref (v 17), .int 0, .ref (v 19), .ref (v 20), .int (-1), .int 0, .ref (v 23), .int (-1), .int (-1), .int (-1), .int 0, .int (-1), .int 0, .ref (v 30), .int 0, .ref (v 32), .int 0, .int 0, .ref (v 35), .ref (v 36), .ref (v 37), .ref (v 38), .long 0, .ref (v 40), .ref (v 41), .ref (v 42), .ref (v 43)]))] H := hP
  have hD : va_D A [(v 4, .inl (k 0, 7, .inl (upd (fun _ => 0) 6 0))), (h0, .inr (11, [.ref (v 0), .int 0, .int 0, .ref (v 3), .ref (v 4), .ref (v 5), .ref (v 6), .ref (v 7), .int 0, .int 1, .int 0, .int 6, .int 0, .int 0, .int 0, .ref (v 15), .int 0, .ref (v 17), .int 0, .ref (v 19), .ref (v 20), .int (-1), .int 0, .ref (v 23), .int (-1), .int (-1), .int (-1), .int 0, .int (-1), .int 0, .ref (v 30), .int 0, .ref (v 32), .int 0, .int 0, .ref (v 35), .ref (v 36), .ref (v 37), .ref (v 38), .long 0, .ref (v 40), .ref (v 41), .ref (v 42), .ref (v 43)]))] := hD
  obtain rfl : r_2 = 0 := hr_2
  refine lv_istore_n (lv' := [(1, .int 0), (0, .ref h0)]) hx hb dX11_readsAll_34 rfl hl (by decide) rfl (fun ls hl => ?_)
  refine lv_iload_n hx hb dX11_readsAll_35 rfl (lv_at hl 0 rfl) ?_
  refine lv_if_eq (tgt := 66) hx hb dX11_readsAll_36 (by decide) (fun _ => ?_) (fun h9 => absurd h9 (by decide))
  refine lv_iload_n hx hb dX11_readsAll_66 rfl (lv_at hl 0 rfl) ?_
  refine lv_if_eq (tgt := 88) hx hb dX11_readsAll_67 (by decide) (fun _ => ?_) (fun h9 => absurd h9 (by decide))
  refine lv_aload_n hx hb dX11_readsAll_88 rfl (lv_at hl 1 rfl) ?_
  refine lv_iconst (v := 0) hx hb dX11_readsAll_89 (by decide) ?_
  refine va_put (D := G) (ci := 11) (v := .int 0) (ty := .int) (C := RX11) (T := TX11) (N := 44) hx hb hts j_m_readsAll_c_11 tyX11 tyX11_ok nmX11 hown hE.K hP hD hS 1 rfl rfl 1 (by decide) (hts (.fieldLink RX11 92 "GossamerGateModel" "taped" "I") (List.mem_cons_of_mem _ (List.mem_append_left _ (List.mem_of_getElem? (i := 10) rfl)))) (fun _ h9 => h9) rfl (by decide +kernel) rfl rfl (Nat.le_of_ble_eq_true rfl) dX11_readsAll_90 (fun H locs hP hD hS => ?_)
  have hP : va_P G vwCl [(v 4, .inl (k 0, 7, .inl (upd (fun _ => 0) 6 0))), (h0, .inr (11, [.ref (v 0), .int 0, .int 0, .ref (v 3), .ref (v 4), .ref (v 5), .ref (v 6), .ref (v 7), .int 0, .int 1, .int 0, .int 6, .int 0, .int 0, .int 0, .ref (v 15), .int 0, .ref (v 17), .int 0, .ref (v 19), .ref (v 20), .int (-1), .int 0, .ref (v 23), .int (-1), .int (-1), .int (-1), .int 0, .int (-1), .int 0, .ref (v 30), .int 0, .ref (v 32), .int 0, .int 0, .ref (v 35), .ref (v 36), .ref (v 37), .ref (v 38), .long 0, .ref (v 40), .ref (v 41), .ref (v 42), .ref (v 43)]))] H := hP
  have hD : va_D A [(v 4, .inl (k 0, 7, .inl (upd (fun _ => 0) 6 0))), (h0, .inr (11, [.ref (v 0), .int 0, .int 0, .ref (v 3), .ref (v 4), .ref (v 5), .ref (v 6), .ref (v 7), .int 0, .int 1, .int 0, .int 6, .int 0, .int 0, .int 0, .ref (v 15), .int 0, .ref (v 17), .int 0, .ref (v 19), .ref (v 20), .int (-1), .int 0, .ref (v 23), .int (-1), .int (-1), .int (-1), .int 0, .int (-1), .int 0, .ref (v 30), .int 0, .ref (v 32), .int 0, .int 0, .ref (v 35), .ref (v 36), .ref (v 37), .ref (v 38), .long 0, .ref (v 40), .ref (v 41), .ref (v 42), .ref (v 43)]))] := hD
  refine lv_aload_n hx hb dX11_readsAll_93 rfl (lv_at hl 1 rfl) ?_
  refine va_get (D := G) (ci := 11) (v := .int 1) (C := RX11) (T := TX11) (N := 44) hx hb hts j_m_readsAll_c_11 hown hE.K hP 1 rfl rfl 9 (by decide) (hts (.fieldLink RX11 99 "GossamerGateModel" "wrong" "I") (List.mem_cons_of_mem _ (List.mem_append_left _ (List.mem_of_getElem? (i := 4) rfl)))) (fun _ h9 => h9) rfl dX11_readsAll_94 ?_
  refine lv_if_ne (tgt := 104) hx hb dX11_readsAll_97 (by decide) (fun _ => ?_) (fun h9 => absurd h9 (by decide))
  refine lv_iconst (v := 0) hx hb dX11_readsAll_104 (by decide) ?_
  have hP9 := hP.sub (ws' := [(h0, .inr (11, [.ref (v 0), .int 0, .int 0, .ref (v 3), .ref (v 4), .ref (v 5), .ref (v 6), .ref (v 7), .int 0, .int 1, .int 0, .int 6, .int 0, .int 0, .int 0, .ref (v 15), .int 0, .ref (v 17), .int 0, .ref (v 19), .ref (v 20), .int (-1), .int 0, .ref (v 23), .int (-1), .int (-1), .int (-1), .int 0, .int (-1), .int 0, .ref (v 30), .int 0, .ref (v 32), .int 0, .int 0, .ref (v 35), .ref (v 36), .ref (v 37), .ref (v 38), .long 0, .ref (v 40), .ref (v 41), .ref (v 42), .ref (v 43)]))]) [1] rfl
  have hD9 := hD.sub (ws' := [(h0, .inr (11, [.ref (v 0), .int 0, .int 0, .ref (v 3), .ref (v 4), .ref (v 5), .ref (v 6), .ref (v 7), .int 0, .int 1, .int 0, .int 6, .int 0, .int 0, .int 0, .ref (v 15), .int 0, .ref (v 17), .int 0, .ref (v 19), .ref (v 20), .int (-1), .int 0, .ref (v 23), .int (-1), .int (-1), .int (-1), .int 0, .int (-1), .int 0, .ref (v 30), .int 0, .ref (v 32), .int 0, .int 0, .ref (v 35), .ref (v 36), .ref (v 37), .ref (v 38), .long 0, .ref (v 40), .ref (v 41), .ref (v 42), .ref (v 43)]))]) [1] (by decide) rfl
  exact W.zret (v := 0) hx hb hr (by decide) (fun t ht hW => ⟨⟨0, (fun _ => 0), rfl, rfl, by rw [ht]; exact hP9, hD9⟩, hS.F ht⟩) hS.2.2 dX11_readsAll_105
set_option maxHeartbeats 4000000 in
set_option maxRecDepth 100000 in
theorem m_clauseHere_r (l : Launch) (G : va_G) (k : Nat → ClassId) (sa : Nat → Nat) (sz : Nat) (h0 : Nat) (v : Nat → Nat) : Met l yX11_clauseHere vs_m_clauseHere_r ({ frames := 2, cells := 0, slots := 0, locals := 46 } : Room) (gP G k sa [.ref h0] [(h0, .inr (11, [.ref (v 0), .int 0, .int 0, .ref (v 3), .ref (v 4), .ref (v 5), .ref (v 6), .ref (v 7), .int 0, .int 0, .int 0, .int 0, .int 0, .int 0, .int 0, .ref (v 15), .int 0, .ref (v 17), .int 0, .ref (v 19), .ref (v 20), .int (-1), .int 0, .ref (v 23), .int (-1), .int (-1), .int (-1), .int 0, .int (-1), .int 0, .ref (v 30), .int 0, .ref (v 32), .int 0, .int 0, .ref (v 35), .ref (v 36), .ref (v 37), .ref (v 38), .long 0, .ref (v 40), .ref (v 41), .ref (v 42), .ref (v 43)]))] sz) (va_Qi (fun r (_ : Nat → Nat) => r = 0) (gO G (va_A ([(h0, .inr (11, [.ref (v 0), .int 0, .int 0, .ref (v 3), .ref (v 4), .ref (v 5), .ref (v 6), .ref (v 7), .int 0, .int 0, .int 0, .int 0, .int 0, .int 0, .int 0, .ref (v 15), .int 0, .ref (v 17), .int 0, .ref (v 19), .ref (v 20), .int (-1), .int 0, .ref (v 23), .int (-1), .int (-1), .int (-1), .int 0, .int (-1), .int 0, .ref (v 30), .int 0, .ref (v 32), .int 0, .int 0, .ref (v 35), .ref (v 36), .ref (v 37), .ref (v 38), .long 0, .ref (v 40), .ref (v 41), .ref (v 42), .ref (v 43)]))]) sz) (fun u => [(h0, .inr (11, [.ref (v 0), .int 0, .int 0, .ref (v 3), .ref (v 4), .ref (v 5), .ref (v 6), .ref (v 7), .int 0, .int 1, .int 0, .int 0, .int 0, .int 0, .int 0, .ref (v 15), .int 0, .ref (v 17), .int 0, .ref (v 19), .ref (v 20), .int (-1), .int 0, .ref (v 23), .int (-1), .int (-1), .int (-1), .int 0, .int (-1), .int 0, .ref (v 30), .int 0, .ref (v 32), .int 0, .int 0, .ref (v 35), .ref (v 36), .ref (v 37), .ref (v 38), .long 0, .ref (v 40), .ref (v 41), .ref (v 42), .ref (v 43)]))])) (va_A ([(h0, .inr (11, [.ref (v 0), .int 0, .int 0, .ref (v 3), .ref (v 4), .ref (v 5), .ref (v 6), .ref (v 7), .int 0, .int 0, .int 0, .int 0, .int 0, .int 0, .int 0, .ref (v 15), .int 0, .ref (v 17), .int 0, .ref (v 19), .ref (v 20), .int (-1), .int 0, .ref (v 23), .int (-1), .int (-1), .int (-1), .int 0, .int (-1), .int 0, .ref (v 30), .int 0, .ref (v 32), .int 0, .int 0, .ref (v 35), .ref (v 36), .ref (v 37), .ref (v 38), .long 0, .ref (v 40), .ref (v 41), .ref (v 42), .ref (v 43)]))]) sz)) 0 0 (va_A ([(h0, .inr (11, [.ref (v 0), .int 0, .int 0, .ref (v 3), .ref (v 4), .ref (v 5), .ref (v 6), .ref (v 7), .int 0, .int 0, .int 0, .int 0, .int 0, .int 0, .int 0, .ref (v 15), .int 0, .ref (v 17), .int 0, .ref (v 19), .ref (v 20), .int (-1), .int 0, .ref (v 23), .int (-1), .int (-1), .int (-1), .int 0, .int (-1), .int 0, .ref (v 30), .int 0, .ref (v 32), .int 0, .int 0, .ref (v 35), .ref (v 36), .ref (v 37), .ref (v 38), .long 0, .ref (v 40), .ref (v 41), .ref (v 42), .ref (v 43)]))]) sz) := by
  refine gz_met (cc := cX11_clauseHere) (maxL := 3) (ret := (some .boolean)) (by decide) rfl (Nat.le_of_ble_eq_true rfl) ?_
  intro p_ e_ s_ m below_ meth_ c_ ls hx hb hr hml hts hown hlocks hin hP hE hD hA hS
  generalize hAe : va_A ([(h0, .inr (11, [.ref (v 0), .int 0, .int 0, .ref (v 3), .ref (v 4), .ref (v 5), .ref (v 6), .ref (v 7), .int 0, .int 0, .int 0, .int 0, .int 0, .int 0, .int 0, .ref (v 15), .int 0, .ref (v 17), .int 0, .ref (v 19), .ref (v 20), .int (-1), .int 0, .ref (v 23), .int (-1), .int (-1), .int (-1), .int 0, .int (-1), .int 0, .ref (v 30), .int 0, .ref (v 32), .int 0, .int 0, .ref (v 35), .ref (v 36), .ref (v 37), .ref (v 38), .long 0, .ref (v 40), .ref (v 41), .ref (v 42), .ref (v 43)]))]) sz = A at hD hA hS ⊢
  intro hl
  have hl : lv_has ls 3 [(0, .ref h0)] := hl
  refine lv_aload_n hx hb dX11_clauseHere_0 rfl (lv_at hl 0 rfl) ?_
  refine vp_callSi (W.runV (As := []) (rest := []) ⟨hx, hb, hml, hown, hts⟩ (m_see l G k sa h0 v 0 0) (cwV 0 hts g_m_clauseHere_r_105_m_see rfl rfl rfl (by decide +kernel) ⟨(Nat.le_of_ble_eq_true rfl), (Nat.le_of_ble_eq_true rfl)⟩) ⟨gR.bl, va_recv hE.K hP (ci := 11) (q0 := 0) rfl rfl, (gR.pre (wc := [(h0, .inr (11, [.ref (v 0), .int 0, .int 0, .ref (v 3), .ref (v 4), .ref (v 5), .ref (v 6), .ref (v 7), .int 0, .int 0, .int 0, .int 0, .int 0, .int 0, .int 0, .ref (v 15), .int 0, .ref (v 17), .int 0, .ref (v 19), .ref (v 20), .int (-1), .int 0, .ref (v 23), .int (-1), .int (-1), .int (-1), .int 0, .int (-1), .int 0, .ref (v 30), .int 0, .ref (v 32), .int 0, .int 0, .ref (v 35), .ref (v 36), .ref (v 37), .ref (v 38), .long 0, .ref (v 40), .ref (v 41), .ref (v 42), .ref (v 43)]))]) hE hP [0] rfl)⟩ rfl rfl hl.1 rfl (lv_room (Nat.le_of_ble_eq_true rfl)) dX11_clauseHere_1 ⟨(Nat.le_of_ble_eq_true rfl), (Nat.le_of_ble_eq_true rfl)⟩) (fun r_1 hr_1 => ?_)
  obtain rfl : r_1 = (-1) := hr_1
  refine lv_pop hx hb dX11_clauseHere_4 rfl ?_
  refine lv_aload_n hx hb dX11_clauseHere_5 rfl (lv_at hl 0 rfl) ?_
  refine va_get (D := G) (ci := 11) (v := .int 0) (C := RX11) (T := TX11) (N := 44) hx hb hts j_m_clauseHere_r_11 hown hE.K hP 0 rfl rfl 8 (by decide) (hts (.fieldLink RX11 102 "GossamerGateModel" "next" "I") (List.mem_cons_of_mem _ (List.mem_append_left _ (List.mem_of_getElem? (i := 4) rfl)))) (fun _ h9 => h9) rfl dX11_clauseHere_6 ?_
  refine lv_istore_n (lv' := [(1, .int 0), (0, .ref h0)]) hx hb dX11_clauseHere_9 rfl hl (by decide) rfl (fun ls hl => ?_)
  refine lv_aload_n hx hb dX11_clauseHere_10 rfl (lv_at hl 1 rfl) ?_
  refine va_get (D := G) (ci := 11) (v := .int 0) (C := RX11) (T := TX11) (N := 44) hx hb hts j_m_clauseHere_r_11 hown hE.K hP 0 rfl rfl 11 (by decide) (hts (.fieldLink RX11 158 "GossamerGateModel" "text" "I") (List.mem_cons_of_mem _ (List.mem_append_left _ (List.mem_of_getElem? (i := 5) rfl)))) (fun _ h9 => h9) rfl dX11_clauseHere_11 ?_
  refine lv_bipush (v := 6) hx hb dX11_clauseHere_14 (by decide) ?_
  refine lv_icmp_ne (tgt := 23) hx hb dX11_clauseHere_16 (by decide) (fun _ => ?_) (fun h9 => absurd h9 (by decide))
  refine lv_iconst (v := 0) hx hb dX11_clauseHere_23 (by decide) ?_
  refine lv_istore_n (lv' := [(2, .int 0), (1, .int 0), (0, .ref h0)]) hx hb dX11_clauseHere_24 rfl hl (by decide) rfl (fun ls hl => ?_)
  refine lv_iload_n hx hb dX11_clauseHere_25 rfl (lv_at hl 0 rfl) ?_
  refine lv_if_eq (tgt := 39) hx hb dX11_clauseHere_26 (by decide) (fun _ => ?_) (fun h9 => absurd h9 (by decide))
  refine lv_aload_n hx hb dX11_clauseHere_39 rfl (lv_at hl 2 rfl) ?_
  refine lv_ldc2 (v := 26479) hx hb hown (hts (.constantLong RX11 258 (26479)) (List.mem_cons_of_mem _ (List.mem_append_left _ (List.mem_of_getElem? (i := 6) rfl)))) dX11_clauseHere_40 ?_
  refine vp_callSi (W.runV (As := [.long 26479]) (rest := []) ⟨hx, hb, hml, hown, hts⟩ (m_isWord l G k sa h0 v 0 0 26479) (cwV 1 hts g_m_clauseHere_r_113_m_isWord rfl rfl rfl (by decide +kernel) ⟨(Nat.le_of_ble_eq_true rfl), (Nat.le_of_ble_eq_true rfl)⟩) ⟨gR.bl, va_recv hE.K hP (ci := 11) (q0 := 0) rfl rfl, (gR.pre (wc := [(h0, .inr (11, [.ref (v 0), .int 0, .int 0, .ref (v 3), .ref (v 4), .ref (v 5), .ref (v 6), .ref (v 7), .int 0, .int 0, .int 0, .int 0, .int 0, .int 0, .int 0, .ref (v 15), .int 0, .ref (v 17), .int 0, .ref (v 19), .ref (v 20), .int (-1), .int 0, .ref (v 23), .int (-1), .int (-1), .int (-1), .int 0, .int (-1), .int 0, .ref (v 30), .int 0, .ref (v 32), .int 0, .int 0, .ref (v 35), .ref (v 36), .ref (v 37), .ref (v 38), .long 0, .ref (v 40), .ref (v 41), .ref (v 42), .ref (v 43)]))]) hE hP [0] rfl)⟩ rfl rfl hl.1 rfl (lv_room (Nat.le_of_ble_eq_true rfl)) dX11_clauseHere_43 ⟨(Nat.le_of_ble_eq_true rfl), (Nat.le_of_ble_eq_true rfl)⟩) (fun r_2 hr_2 => ?_)
  obtain rfl : r_2 = 0 := hr_2
  refine lv_if_ne (tgt := 56) hx hb dX11_clauseHere_46 (by decide) (fun h9 => absurd h9 (by decide)) (fun _ => ?_)
  refine lv_aload_n hx hb dX11_clauseHere_49 rfl (lv_at hl 2 rfl) ?_
  refine lv_iconst (v := 0) hx hb dX11_clauseHere_50 (by decide) ?_
  refine lv_iload_n hx hb dX11_clauseHere_51 rfl (lv_at hl 1 rfl) ?_
  refine gz_i (wc := [(h0, .inr (11, [.ref (v 0), .int 0, .int 0, .ref (v 3), .ref (v 4), .ref (v 5), .ref (v 6), .ref (v 7), .int 0, .int 0, .int 0, .int 0, .int 0, .int 0, .int 0, .ref (v 15), .int 0, .ref (v 17), .int 0, .ref (v 19), .ref (v 20), .int (-1), .int 0, .ref (v 23), .int (-1), .int (-1), .int (-1), .int 0, .int (-1), .int 0, .ref (v 30), .int 0, .ref (v 32), .int 0, .int 0, .ref (v 35), .ref (v 36), .ref (v 37), .ref (v 38), .long 0, .ref (v 40), .ref (v 41), .ref (v 42), .ref (v 43)]))]) (wr := []) hP hD hS hA [0] [] rfl rfl (by decide) (by decide) (va_runV (As := [.int 0, .int 0]) (rest := []) ⟨hx, hb, hml, hown, hts⟩ (m_fails l G k sa _ h0 v 0) (cwV 2 hts g_m_clauseHere_r_123_m_fails rfl rfl rfl (by decide +kernel) ⟨(Nat.le_of_ble_eq_true rfl), (Nat.le_of_ble_eq_true rfl)⟩) ⟨gP.bl, va_recv hE.K hP (ci := 11) (q0 := 0) rfl rfl, (gP.pre (wc := [(h0, .inr (11, [.ref (v 0), .int 0, .int 0, .ref (v 3), .ref (v 4), .ref (v 5), .ref (v 6), .ref (v 7), .int 0, .int 0, .int 0, .int 0, .int 0, .int 0, .int 0, .ref (v 15), .int 0, .ref (v 17), .int 0, .ref (v 19), .ref (v 20), .int (-1), .int 0, .ref (v 23), .int (-1), .int (-1), .int (-1), .int 0, .int (-1), .int 0, .ref (v 30), .int 0, .ref (v 32), .int 0, .int 0, .ref (v 35), .ref (v 36), .ref (v 37), .ref (v 38), .long 0, .ref (v 40), .ref (v 41), .ref (v 42), .ref (v 43)]))]) hE hP hD [0] rfl (by decide))⟩ rfl rfl hl.1 rfl (lv_room (Nat.le_of_ble_eq_true rfl)) dX11_clauseHere_52 ⟨(Nat.le_of_ble_eq_true rfl), (Nat.le_of_ble_eq_true rfl)⟩) (fun r_4 u_3 H locs hr_4 hP hD hS => ?_)
  have hP : va_P G vwCl [(h0, .inr (11, [.ref (v 0), .int 0, .int 0, .ref (v 3), .ref (v 4), .ref (v 5), .ref (v 6), .ref (v 7), .int 0, .int 1, .int 0, .int 0, .int 0, .int 0, .int 0, .ref (v 15), .int 0, .ref (v 17), .int 0, .ref (v 19), .ref (v 20), .int (-1), .int 0, .ref (v 23), .int (-1), .int (-1), .int (-1), .int 0, .int (-1), .int 0, .ref (v 30), .int 0, .ref (v 32), .int 0, .int 0, .ref (v 35), .ref (v 36), .ref (v 37), .ref (v 38), .long 0, .ref (v 40), .ref (v 41), .ref (v 42), .ref (v 43)]))] H := hP
  have hD : va_D A [(h0, .inr (11, [.ref (v 0), .int 0, .int 0, .ref (v 3), .ref (v 4), .ref (v 5), .ref (v 6), .ref (v 7), .int 0, .int 1, .int 0, .int 0, .int 0, .int 0, .int 0, .ref (v 15), .int 0, .ref (v 17), .int 0, .ref (v 19), .ref (v 20), .int (-1), .int 0, .ref (v 23), .int (-1), .int (-1), .int (-1), .int 0, .int (-1), .int 0, .ref (v 30), .int 0, .ref (v 32), .int 0, .int 0, .ref (v 35), .ref (v 36), .ref (v 37), .ref (v 38), .long 0, .ref (v 40), .ref (v 41), .ref (v 42), .ref (v 43)]))] := hD
  obtain rfl : r_4 = 0 := hr_4
  have hP9 := hP.sub (ws' := [(h0, .inr (11, [.ref (v 0), .int 0, .int 0, .ref (v 3), .ref (v 4), .ref (v 5), .ref (v 6), .ref (v 7), .int 0, .int 1, .int 0, .int 0, .int 0, .int 0, .int 0, .ref (v 15), .int 0, .ref (v 17), .int 0, .ref (v 19), .ref (v 20), .int (-1), .int 0, .ref (v 23), .int (-1), .int (-1), .int (-1), .int 0, .int (-1), .int 0, .ref (v 30), .int 0, .ref (v 32), .int 0, .int 0, .ref (v 35), .ref (v 36), .ref (v 37), .ref (v 38), .long 0, .ref (v 40), .ref (v 41), .ref (v 42), .ref (v 43)]))]) [0] rfl
  have hD9 := hD.sub (ws' := [(h0, .inr (11, [.ref (v 0), .int 0, .int 0, .ref (v 3), .ref (v 4), .ref (v 5), .ref (v 6), .ref (v 7), .int 0, .int 1, .int 0, .int 0, .int 0, .int 0, .int 0, .ref (v 15), .int 0, .ref (v 17), .int 0, .ref (v 19), .ref (v 20), .int (-1), .int 0, .ref (v 23), .int (-1), .int (-1), .int (-1), .int 0, .int (-1), .int 0, .ref (v 30), .int 0, .ref (v 32), .int 0, .int 0, .ref (v 35), .ref (v 36), .ref (v 37), .ref (v 38), .long 0, .ref (v 40), .ref (v 41), .ref (v 42), .ref (v 43)]))]) [0] (by decide) rfl
  exact W.zret (v := 0) hx hb hr (by decide) (fun t ht hW => ⟨⟨0, (fun _ => 0), rfl, rfl, by rw [ht]; exact hP9, hD9⟩, hS.F ht⟩) hS.2.2 dX11_clauseHere_55
set_option maxHeartbeats 4000000 in
set_option maxRecDepth 100000 in
theorem m_readsAll_r (l : Launch) (G : va_G) (k : Nat → ClassId) (sa : Nat → Nat) (sz : Nat) (h0 : Nat) (v : Nat → Nat) : Met l yX11_readsAll vs_m_readsAll_r ({ frames := 3, cells := 0, slots := 0, locals := 68 } : Room) (gP G k sa [.ref h0] [(h0, .inr (11, [.ref (v 0), .int 0, .int 0, .ref (v 3), .ref (v 4), .ref (v 5), .ref (v 6), .ref (v 7), .int 0, .int 0, .int 0, .int 0, .int 0, .int 0, .int 0, .ref (v 15), .int 0, .ref (v 17), .int 0, .ref (v 19), .ref (v 20), .int (-1), .int 0, .ref (v 23), .int (-1), .int (-1), .int (-1), .int 0, .int (-1), .int 0, .ref (v 30), .int 0, .ref (v 32), .int 0, .int 0, .ref (v 35), .ref (v 36), .ref (v 37), .ref (v 38), .long 0, .ref (v 40), .ref (v 41), .ref (v 42), .ref (v 43)])), (v 4, .inl (k 0, 7, .inl (fun _ => 0)))] sz) (va_Qi (fun r (_ : Nat → Nat) => r = 0) (gO G (va_A ([(h0, .inr (11, [.ref (v 0), .int 0, .int 0, .ref (v 3), .ref (v 4), .ref (v 5), .ref (v 6), .ref (v 7), .int 0, .int 0, .int 0, .int 0, .int 0, .int 0, .int 0, .ref (v 15), .int 0, .ref (v 17), .int 0, .ref (v 19), .ref (v 20), .int (-1), .int 0, .ref (v 23), .int (-1), .int (-1), .int (-1), .int 0, .int (-1), .int 0, .ref (v 30), .int 0, .ref (v 32), .int 0, .int 0, .ref (v 35), .ref (v 36), .ref (v 37), .ref (v 38), .long 0, .ref (v 40), .ref (v 41), .ref (v 42), .ref (v 43)])), (v 4, .inl (k 0, 7, .inl (fun _ => 0)))]) sz) (fun u => [(h0, .inr (11, [.ref (v 0), .int 0, .int 0, .ref (v 3), .ref (v 4), .ref (v 5), .ref (v 6), .ref (v 7), .int 0, .int 1, .int 0, .int 0, .int 0, .int 0, .int 0, .ref (v 15), .int 0, .ref (v 17), .int 0, .ref (v 19), .ref (v 20), .int (-1), .int 0, .ref (v 23), .int (-1), .int (-1), .int (-1), .int 0, .int (-1), .int 0, .ref (v 30), .int 0, .ref (v 32), .int 0, .int 0, .ref (v 35), .ref (v 36), .ref (v 37), .ref (v 38), .long 0, .ref (v 40), .ref (v 41), .ref (v 42), .ref (v 43)]))])) (va_A ([(h0, .inr (11, [.ref (v 0), .int 0, .int 0, .ref (v 3), .ref (v 4), .ref (v 5), .ref (v 6), .ref (v 7), .int 0, .int 0, .int 0, .int 0, .int 0, .int 0, .int 0, .ref (v 15), .int 0, .ref (v 17), .int 0, .ref (v 19), .ref (v 20), .int (-1), .int 0, .ref (v 23), .int (-1), .int (-1), .int (-1), .int 0, .int (-1), .int 0, .ref (v 30), .int 0, .ref (v 32), .int 0, .int 0, .ref (v 35), .ref (v 36), .ref (v 37), .ref (v 38), .long 0, .ref (v 40), .ref (v 41), .ref (v 42), .ref (v 43)])), (v 4, .inl (k 0, 7, .inl (fun _ => 0)))]) sz)) 0 0 (va_A ([(h0, .inr (11, [.ref (v 0), .int 0, .int 0, .ref (v 3), .ref (v 4), .ref (v 5), .ref (v 6), .ref (v 7), .int 0, .int 0, .int 0, .int 0, .int 0, .int 0, .int 0, .ref (v 15), .int 0, .ref (v 17), .int 0, .ref (v 19), .ref (v 20), .int (-1), .int 0, .ref (v 23), .int (-1), .int (-1), .int (-1), .int 0, .int (-1), .int 0, .ref (v 30), .int 0, .ref (v 32), .int 0, .int 0, .ref (v 35), .ref (v 36), .ref (v 37), .ref (v 38), .long 0, .ref (v 40), .ref (v 41), .ref (v 42), .ref (v 43)])), (v 4, .inl (k 0, 7, .inl (fun _ => 0)))]) sz) := by
  refine gz_met (cc := cX11_readsAll) (maxL := 2) (ret := (some .boolean)) (by decide) rfl (Nat.le_of_ble_eq_true rfl) ?_
  intro p_ e_ s_ m below_ meth_ c_ ls hx hb hr hml hts hown hlocks hin hP hE hD hA hS
  generalize hAe : va_A ([(h0, .inr (11, [.ref (v 0), .int 0, .int 0, .ref (v 3), .ref (v 4), .ref (v 5), .ref (v 6), .ref (v 7), .int 0, .int 0, .int 0, .int 0, .int 0, .int 0, .int 0, .ref (v 15), .int 0, .ref (v 17), .int 0, .ref (v 19), .ref (v 20), .int (-1), .int 0, .ref (v 23), .int (-1), .int (-1), .int (-1), .int 0, .int (-1), .int 0, .ref (v 30), .int 0, .ref (v 32), .int 0, .int 0, .ref (v 35), .ref (v 36), .ref (v 37), .ref (v 38), .long 0, .ref (v 40), .ref (v 41), .ref (v 42), .ref (v 43)])), (v 4, .inl (k 0, 7, .inl (fun _ => 0)))]) sz = A at hD hA hS ⊢
  intro hl
  have hl : lv_has ls 2 [(0, .ref h0)] := hl
  refine lv_aload_n hx hb dX11_readsAll_0 rfl (lv_at hl 0 rfl) ?_
  refine va_get (D := G) (ci := 11) (v := .ref (v 4)) (C := RX11) (T := TX11) (N := 44) hx hb hts j_m_readsAll_r_11 hown hE.K hP 0 rfl rfl 4 (by decide) (hts (.fieldLink RX11 17 "GossamerGateModel" "length" "[I") (List.mem_cons_of_mem _ (List.mem_append_left _ (List.mem_of_getElem? (i := 0) rfl)))) (fun _ h9 => h9) rfl dX11_readsAll_1 ?_
  refine lv_aload_n hx hb dX11_readsAll_4 rfl (lv_at hl 0 rfl) ?_
  refine va_get (D := G) (ci := 11) (v := .int 0) (C := RX11) (T := TX11) (N := 44) hx hb hts j_m_readsAll_r_11 hown hE.K hP 0 rfl rfl 11 (by decide) (hts (.fieldLink RX11 158 "GossamerGateModel" "text" "I") (List.mem_cons_of_mem _ (List.mem_append_left _ (List.mem_of_getElem? (i := 1) rfl)))) (fun _ h9 => h9) rfl dX11_readsAll_5 ?_
  refine lv_iconst (v := 0) hx hb dX11_readsAll_8 (by decide) ?_
  refine va_iast hx hb hE.K hP hD hS 1 0 rfl rfl (gz_in (by decide)) dX11_readsAll_9 (fun H locs hP hD hS => ?_)
  have hP : va_P G vwCl [(h0, .inr (11, [.ref (v 0), .int 0, .int 0, .ref (v 3), .ref (v 4), .ref (v 5), .ref (v 6), .ref (v 7), .int 0, .int 0, .int 0, .int 0, .int 0, .int 0, .int 0, .ref (v 15), .int 0, .ref (v 17), .int 0, .ref (v 19), .ref (v 20), .int (-1), .int 0, .ref (v 23), .int (-1), .int (-1), .int (-1), .int 0, .int (-1), .int 0, .ref (v 30), .int 0, .ref (v 32), .int 0, .int 0, .ref (v 35), .ref (v 36), .ref (v 37), .ref (v 38), .long 0, .ref (v 40), .ref (v 41), .ref (v 42), .ref (v 43)])), (v 4, .inl (k 0, 7, .inl (upd (fun _ => 0) 0 0)))] H := hP
  have hD : va_D A [(h0, .inr (11, [.ref (v 0), .int 0, .int 0, .ref (v 3), .ref (v 4), .ref (v 5), .ref (v 6), .ref (v 7), .int 0, .int 0, .int 0, .int 0, .int 0, .int 0, .int 0, .ref (v 15), .int 0, .ref (v 17), .int 0, .ref (v 19), .ref (v 20), .int (-1), .int 0, .ref (v 23), .int (-1), .int (-1), .int (-1), .int 0, .int (-1), .int 0, .ref (v 30), .int 0, .ref (v 32), .int 0, .int 0, .ref (v 35), .ref (v 36), .ref (v 37), .ref (v 38), .long 0, .ref (v 40), .ref (v 41), .ref (v 42), .ref (v 43)])), (v 4, .inl (k 0, 7, .inl (upd (fun _ => 0) 0 0)))] := hD
  refine lv_aload_n hx hb dX11_readsAll_10 rfl (lv_at hl 0 rfl) ?_
  refine lv_iconst (v := 0) hx hb dX11_readsAll_11 (by decide) ?_
  refine va_put (D := G) (ci := 11) (v := .int 0) (ty := .int) (C := RX11) (T := TX11) (N := 44) hx hb hts j_m_readsAll_r_11 tyX11 tyX11_ok nmX11 hown hE.K hP hD hS 0 rfl rfl 14 (by decide) (hts (.fieldLink RX11 260 "GossamerGateModel" "lines" "I") (List.mem_cons_of_mem _ (List.mem_append_left _ (List.mem_of_getElem? (i := 2) rfl)))) (fun _ h9 => h9) rfl (by decide +kernel) rfl rfl (Nat.le_of_ble_eq_true rfl) dX11_readsAll_12 (fun H locs hP hD hS => ?_)
  have hP : va_P G vwCl [(h0, .inr (11, [.ref (v 0), .int 0, .int 0, .ref (v 3), .ref (v 4), .ref (v 5), .ref (v 6), .ref (v 7), .int 0, .int 0, .int 0, .int 0, .int 0, .int 0, .int 0, .ref (v 15), .int 0, .ref (v 17), .int 0, .ref (v 19), .ref (v 20), .int (-1), .int 0, .ref (v 23), .int (-1), .int (-1), .int (-1), .int 0, .int (-1), .int 0, .ref (v 30), .int 0, .ref (v 32), .int 0, .int 0, .ref (v 35), .ref (v 36), .ref (v 37), .ref (v 38), .long 0, .ref (v 40), .ref (v 41), .ref (v 42), .ref (v 43)])), (v 4, .inl (k 0, 7, .inl (upd (fun _ => 0) 0 0)))] H := hP
  have hD : va_D A [(h0, .inr (11, [.ref (v 0), .int 0, .int 0, .ref (v 3), .ref (v 4), .ref (v 5), .ref (v 6), .ref (v 7), .int 0, .int 0, .int 0, .int 0, .int 0, .int 0, .int 0, .ref (v 15), .int 0, .ref (v 17), .int 0, .ref (v 19), .ref (v 20), .int (-1), .int 0, .ref (v 23), .int (-1), .int (-1), .int (-1), .int 0, .int (-1), .int 0, .ref (v 30), .int 0, .ref (v 32), .int 0, .int 0, .ref (v 35), .ref (v 36), .ref (v 37), .ref (v 38), .long 0, .ref (v 40), .ref (v 41), .ref (v 42), .ref (v 43)])), (v 4, .inl (k 0, 7, .inl (upd (fun _ => 0) 0 0)))] := hD
  refine lv_aload_n hx hb dX11_readsAll_15 rfl (lv_at hl 0 rfl) ?_
  refine lv_iconst (v := 0) hx hb dX11_readsAll_16 (by decide) ?_
  refine va_put (D := G) (ci := 11) (v := .int 0) (ty := .int) (C := RX11) (T := TX11) (N := 44) hx hb hts j_m_readsAll_r_11 tyX11 tyX11_ok nmX11 hown hE.K hP hD hS 0 rfl rfl 8 (by decide) (hts (.fieldLink RX11 102 "GossamerGateModel" "next" "I") (List.mem_cons_of_mem _ (List.mem_append_left _ (List.mem_of_getElem? (i := 3) rfl)))) (fun _ h9 => h9) rfl (by decide +kernel) rfl rfl (Nat.le_of_ble_eq_true rfl) dX11_readsAll_17 (fun H locs hP hD hS => ?_)
  have hP : va_P G vwCl [(h0, .inr (11, [.ref (v 0), .int 0, .int 0, .ref (v 3), .ref (v 4), .ref (v 5), .ref (v 6), .ref (v 7), .int 0, .int 0, .int 0, .int 0, .int 0, .int 0, .int 0, .ref (v 15), .int 0, .ref (v 17), .int 0, .ref (v 19), .ref (v 20), .int (-1), .int 0, .ref (v 23), .int (-1), .int (-1), .int (-1), .int 0, .int (-1), .int 0, .ref (v 30), .int 0, .ref (v 32), .int 0, .int 0, .ref (v 35), .ref (v 36), .ref (v 37), .ref (v 38), .long 0, .ref (v 40), .ref (v 41), .ref (v 42), .ref (v 43)])), (v 4, .inl (k 0, 7, .inl (upd (fun _ => 0) 0 0)))] H := hP
  have hD : va_D A [(h0, .inr (11, [.ref (v 0), .int 0, .int 0, .ref (v 3), .ref (v 4), .ref (v 5), .ref (v 6), .ref (v 7), .int 0, .int 0, .int 0, .int 0, .int 0, .int 0, .int 0, .ref (v 15), .int 0, .ref (v 17), .int 0, .ref (v 19), .ref (v 20), .int (-1), .int 0, .ref (v 23), .int (-1), .int (-1), .int (-1), .int 0, .int (-1), .int 0, .ref (v 30), .int 0, .ref (v 32), .int 0, .int 0, .ref (v 35), .ref (v 36), .ref (v 37), .ref (v 38), .long 0, .ref (v 40), .ref (v 41), .ref (v 42), .ref (v 43)])), (v 4, .inl (k 0, 7, .inl (upd (fun _ => 0) 0 0)))] := hD
  refine lv_aload_n hx hb dX11_readsAll_20 rfl (lv_at hl 0 rfl) ?_
  refine lv_iconst (v := 0) hx hb dX11_readsAll_21 (by decide) ?_
  refine va_put (D := G) (ci := 11) (v := .int 0) (ty := .int) (C := RX11) (T := TX11) (N := 44) hx hb hts j_m_readsAll_r_11 tyX11 tyX11_ok nmX11 hown hE.K hP hD hS 0 rfl rfl 9 (by decide) (hts (.fieldLink RX11 99 "GossamerGateModel" "wrong" "I") (List.mem_cons_of_mem _ (List.mem_append_left _ (List.mem_of_getElem? (i := 4) rfl)))) (fun _ h9 => h9) rfl (by decide +kernel) rfl rfl (Nat.le_of_ble_eq_true rfl) dX11_readsAll_22 (fun H locs hP hD hS => ?_)
  have hP : va_P G vwCl [(h0, .inr (11, [.ref (v 0), .int 0, .int 0, .ref (v 3), .ref (v 4), .ref (v 5), .ref (v 6), .ref (v 7), .int 0, .int 0, .int 0, .int 0, .int 0, .int 0, .int 0, .ref (v 15), .int 0, .ref (v 17), .int 0, .ref (v 19), .ref (v 20), .int (-1), .int 0, .ref (v 23), .int (-1), .int (-1), .int (-1), .int 0, .int (-1), .int 0, .ref (v 30), .int 0, .ref (v 32), .int 0, .int 0, .ref (v 35), .ref (v 36), .ref (v 37), .ref (v 38), .long 0, .ref (v 40), .ref (v 41), .ref (v 42), .ref (v 43)])), (v 4, .inl (k 0, 7, .inl (upd (fun _ => 0) 0 0)))] H := hP
  have hD : va_D A [(h0, .inr (11, [.ref (v 0), .int 0, .int 0, .ref (v 3), .ref (v 4), .ref (v 5), .ref (v 6), .ref (v 7), .int 0, .int 0, .int 0, .int 0, .int 0, .int 0, .int 0, .ref (v 15), .int 0, .ref (v 17), .int 0, .ref (v 19), .ref (v 20), .int (-1), .int 0, .ref (v 23), .int (-1), .int (-1), .int (-1), .int 0, .int (-1), .int 0, .ref (v 30), .int 0, .ref (v 32), .int 0, .int 0, .ref (v 35), .ref (v 36), .ref (v 37), .ref (v 38), .long 0, .ref (v 40), .ref (v 41), .ref (v 42), .ref (v 43)])), (v 4, .inl (k 0, 7, .inl (upd (fun _ => 0) 0 0)))] := hD
  refine lv_aload_n hx hb dX11_readsAll_25 rfl (lv_at hl 0 rfl) ?_
  refine lv_iconst (v := 0) hx hb dX11_readsAll_26 (by decide) ?_
  refine va_put (D := G) (ci := 11) (v := .int 0) (ty := .int) (C := RX11) (T := TX11) (N := 44) hx hb hts j_m_readsAll_r_11 tyX11 tyX11_ok nmX11 hown hE.K hP hD hS 0 rfl rfl 12 (by decide) (hts (.fieldLink RX11 161 "GossamerGateModel" "made" "I") (List.mem_cons_of_mem _ (List.mem_append_left _ (List.mem_of_getElem? (i := 5) rfl)))) (fun _ h9 => h9) rfl (by decide +kernel) rfl rfl (Nat.le_of_ble_eq_true rfl) dX11_readsAll_27 (fun H locs hP hD hS => ?_)
  have hP : va_P G vwCl [(h0, .inr (11, [.ref (v 0), .int 0, .int 0, .ref (v 3), .ref (v 4), .ref (v 5), .ref (v 6), .ref (v 7), .int 0, .int 0, .int 0, .int 0, .int 0, .int 0, .int 0, .ref (v 15), .int 0, .ref (v 17), .int 0, .ref (v 19), .ref (v 20), .int (-1), .int 0, .ref (v 23), .int (-1), .int (-1), .int (-1), .int 0, .int (-1), .int 0, .ref (v 30), .int 0, .ref (v 32), .int 0, .int 0, .ref (v 35), .ref (v 36), .ref (v 37), .ref (v 38), .long 0, .ref (v 40), .ref (v 41), .ref (v 42), .ref (v 43)])), (v 4, .inl (k 0, 7, .inl (upd (fun _ => 0) 0 0)))] H := hP
  have hD : va_D A [(h0, .inr (11, [.ref (v 0), .int 0, .int 0, .ref (v 3), .ref (v 4), .ref (v 5), .ref (v 6), .ref (v 7), .int 0, .int 0, .int 0, .int 0, .int 0, .int 0, .int 0, .ref (v 15), .int 0, .ref (v 17), .int 0, .ref (v 19), .ref (v 20), .int (-1), .int 0, .ref (v 23), .int (-1), .int (-1), .int (-1), .int 0, .int (-1), .int 0, .ref (v 30), .int 0, .ref (v 32), .int 0, .int 0, .ref (v 35), .ref (v 36), .ref (v 37), .ref (v 38), .long 0, .ref (v 40), .ref (v 41), .ref (v 42), .ref (v 43)])), (v 4, .inl (k 0, 7, .inl (upd (fun _ => 0) 0 0)))] := hD
  refine lv_aload_n hx hb dX11_readsAll_30 rfl (lv_at hl 0 rfl) ?_
  refine gz_i (wc := [(h0, .inr (11, [.ref (v 0), .int 0, .int 0, .ref (v 3), .ref (v 4), .ref (v 5), .ref (v 6), .ref (v 7), .int 0, .int 0, .int 0, .int 0, .int 0, .int 0, .int 0, .ref (v 15), .int 0, .ref (v 17), .int 0, .ref (v 19), .ref (v 20), .int (-1), .int 0, .ref (v 23), .int (-1), .int (-1), .int (-1), .int 0, .int (-1), .int 0, .ref (v 30), .int 0, .ref (v 32), .int 0, .int 0, .ref (v 35), .ref (v 36), .ref (v 37), .ref (v 38), .long 0, .ref (v 40), .ref (v 41), .ref (v 42), .ref (v 43)]))]) (wr := [(v 4, .inl (k 0, 7, .inl (upd (fun _ => 0) 0 0)))]) hP hD hS hA [0] [1] rfl rfl (by decide) (by decide) (va_runV (As := []) (rest := []) ⟨hx, hb, hml, hown, hts⟩ (m_clauseHere_r l G k sa _ h0 v) (cwV 0 hts g_m_readsAll_r_269_m_clauseHere_r rfl rfl rfl (by decide +kernel) ⟨(Nat.le_of_ble_eq_true rfl), (Nat.le_of_ble_eq_true rfl)⟩) ⟨gP.bl, va_recv hE.K hP (ci := 11) (q0 := 0) rfl rfl, (gP.pre (wc := [(h0, .inr (11, [.ref (v 0), .int 0, .int 0, .ref (v 3), .ref (v 4), .ref (v 5), .ref (v 6), .ref (v 7), .int 0, .int 0, .int 0, .int 0, .int 0, .int 0, .int 0, .ref (v 15), .int 0, .ref (v 17), .int 0, .ref (v 19), .ref (v 20), .int (-1), .int 0, .ref (v 23), .int (-1), .int (-1), .int (-1), .int 0, .int (-1), .int 0, .ref (v 30), .int 0, .ref (v 32), .int 0, .int 0, .ref (v 35), .ref (v 36), .ref (v 37), .ref (v 38), .long 0, .ref (v 40), .ref (v 41), .ref (v 42), .ref (v 43)]))]) hE hP hD [0] rfl (by decide))⟩ rfl rfl hl.1 rfl (lv_room (Nat.le_of_ble_eq_true rfl)) dX11_readsAll_31 ⟨(Nat.le_of_ble_eq_true rfl), (Nat.le_of_ble_eq_true rfl)⟩) (fun r_2 u_1 H locs hr_2 hP hD hS => ?_)
  have hP : va_P G vwCl [(v 4, .inl (k 0, 7, .inl (upd (fun _ => 0) 0 0))), (h0, .inr (11, [.ref (v 0), .int 0, .int 0, .ref (v 3), .ref (v 4), .ref (v 5), .ref (v 6), .ref (v 7), .int 0, .int 1, .int 0, .int 0, .int 0, .int 0, .int 0, .ref (v 15), .int 0, .ref (v 17), .int 0, .ref (v 19), .ref (v 20), .int (-1), .int 0, .ref (v 23), .int (-1), .int (-1), .int (-1), .int 0, .int (-1), .int 0, .ref (v 30), .int 0, .ref (v 32), .int 0, .int 0, .ref (v 35), .ref (v 36), .ref (v 37), .ref (v 38), .long 0, .ref (v 40), .ref (v 41), .ref (v 42), .ref (v 43)]))] H := hP
  have hD : va_D A [(v 4, .inl (k 0, 7, .inl (upd (fun _ => 0) 0 0))), (h0, .inr (11, [.ref (v 0), .int 0, .int 0, .ref (v 3), .ref (v 4), .ref (v 5), .ref (v 6), .ref (v 7), .int 0, .int 1, .int 0, .int 0, .int 0, .int 0, .int 0, .ref (v 15), .int 0, .ref (v 17), .int 0, .ref (v 19), .ref (v 20), .int (-1), .int 0, .ref (v 23), .int (-1), .int (-1), .int (-1), .int 0, .int (-1), .int 0, .ref (v 30), .int 0, .ref (v 32), .int 0, .int 0, .ref (v 35), .ref (v 36), .ref (v 37), .ref (v 38), .long 0, .ref (v 40), .ref (v 41), .ref (v 42), .ref (v 43)]))] := hD
  obtain rfl : r_2 = 0 := hr_2
  refine lv_istore_n (lv' := [(1, .int 0), (0, .ref h0)]) hx hb dX11_readsAll_34 rfl hl (by decide) rfl (fun ls hl => ?_)
  refine lv_iload_n hx hb dX11_readsAll_35 rfl (lv_at hl 0 rfl) ?_
  refine lv_if_eq (tgt := 66) hx hb dX11_readsAll_36 (by decide) (fun _ => ?_) (fun h9 => absurd h9 (by decide))
  refine lv_iload_n hx hb dX11_readsAll_66 rfl (lv_at hl 0 rfl) ?_
  refine lv_if_eq (tgt := 88) hx hb dX11_readsAll_67 (by decide) (fun _ => ?_) (fun h9 => absurd h9 (by decide))
  refine lv_aload_n hx hb dX11_readsAll_88 rfl (lv_at hl 1 rfl) ?_
  refine lv_iconst (v := 0) hx hb dX11_readsAll_89 (by decide) ?_
  refine va_put (D := G) (ci := 11) (v := .int 0) (ty := .int) (C := RX11) (T := TX11) (N := 44) hx hb hts j_m_readsAll_r_11 tyX11 tyX11_ok nmX11 hown hE.K hP hD hS 1 rfl rfl 1 (by decide) (hts (.fieldLink RX11 92 "GossamerGateModel" "taped" "I") (List.mem_cons_of_mem _ (List.mem_append_left _ (List.mem_of_getElem? (i := 10) rfl)))) (fun _ h9 => h9) rfl (by decide +kernel) rfl rfl (Nat.le_of_ble_eq_true rfl) dX11_readsAll_90 (fun H locs hP hD hS => ?_)
  have hP : va_P G vwCl [(v 4, .inl (k 0, 7, .inl (upd (fun _ => 0) 0 0))), (h0, .inr (11, [.ref (v 0), .int 0, .int 0, .ref (v 3), .ref (v 4), .ref (v 5), .ref (v 6), .ref (v 7), .int 0, .int 1, .int 0, .int 0, .int 0, .int 0, .int 0, .ref (v 15), .int 0, .ref (v 17), .int 0, .ref (v 19), .ref (v 20), .int (-1), .int 0, .ref (v 23), .int (-1), .int (-1), .int (-1), .int 0, .int (-1), .int 0, .ref (v 30), .int 0, .ref (v 32), .int 0, .int 0, .ref (v 35), .ref (v 36), .ref (v 37), .ref (v 38), .long 0, .ref (v 40), .ref (v 41), .ref (v 42), .ref (v 43)]))] H := hP
  have hD : va_D A [(v 4, .inl (k 0, 7, .inl (upd (fun _ => 0) 0 0))), (h0, .inr (11, [.ref (v 0), .int 0, .int 0, .ref (v 3), .ref (v 4), .ref (v 5), .ref (v 6), .ref (v 7), .int 0, .int 1, .int 0, .int 0, .int 0, .int 0, .int 0, .ref (v 15), .int 0, .ref (v 17), .int 0, .ref (v 19), .ref (v 20), .int (-1), .int 0, .ref (v 23), .int (-1), .int (-1), .int (-1), .int 0, .int (-1), .int 0, .ref (v 30), .int 0, .ref (v 32), .int 0, .int 0, .ref (v 35), .ref (v 36), .ref (v 37), .ref (v 38), .long 0, .ref (v 40), .ref (v 41), .ref (v 42), .ref (v 43)]))] := hD
  refine lv_aload_n hx hb dX11_readsAll_93 rfl (lv_at hl 1 rfl) ?_
  refine va_get (D := G) (ci := 11) (v := .int 1) (C := RX11) (T := TX11) (N := 44) hx hb hts j_m_readsAll_r_11 hown hE.K hP 1 rfl rfl 9 (by decide) (hts (.fieldLink RX11 99 "GossamerGateModel" "wrong" "I") (List.mem_cons_of_mem _ (List.mem_append_left _ (List.mem_of_getElem? (i := 4) rfl)))) (fun _ h9 => h9) rfl dX11_readsAll_94 ?_
  refine lv_if_ne (tgt := 104) hx hb dX11_readsAll_97 (by decide) (fun _ => ?_) (fun h9 => absurd h9 (by decide))
  refine lv_iconst (v := 0) hx hb dX11_readsAll_104 (by decide) ?_
  have hP9 := hP.sub (ws' := [(h0, .inr (11, [.ref (v 0), .int 0, .int 0, .ref (v 3), .ref (v 4), .ref (v 5), .ref (v 6), .ref (v 7), .int 0, .int 1, .int 0, .int 0, .int 0, .int 0, .int 0, .ref (v 15), .int 0, .ref (v 17), .int 0, .ref (v 19), .ref (v 20), .int (-1), .int 0, .ref (v 23), .int (-1), .int (-1), .int (-1), .int 0, .int (-1), .int 0, .ref (v 30), .int 0, .ref (v 32), .int 0, .int 0, .ref (v 35), .ref (v 36), .ref (v 37), .ref (v 38), .long 0, .ref (v 40), .ref (v 41), .ref (v 42), .ref (v 43)]))]) [1] rfl
  have hD9 := hD.sub (ws' := [(h0, .inr (11, [.ref (v 0), .int 0, .int 0, .ref (v 3), .ref (v 4), .ref (v 5), .ref (v 6), .ref (v 7), .int 0, .int 1, .int 0, .int 0, .int 0, .int 0, .int 0, .ref (v 15), .int 0, .ref (v 17), .int 0, .ref (v 19), .ref (v 20), .int (-1), .int 0, .ref (v 23), .int (-1), .int (-1), .int (-1), .int 0, .int (-1), .int 0, .ref (v 30), .int 0, .ref (v 32), .int 0, .int 0, .ref (v 35), .ref (v 36), .ref (v 37), .ref (v 38), .long 0, .ref (v 40), .ref (v 41), .ref (v 42), .ref (v 43)]))]) [1] (by decide) rfl
  exact W.zret (v := 0) hx hb hr (by decide) (fun t ht hW => ⟨⟨0, (fun _ => 0), rfl, rfl, by rw [ht]; exact hP9, hD9⟩, hS.F ht⟩) hS.2.2 dX11_readsAll_105
set_option maxHeartbeats 4000000 in
set_option maxRecDepth 100000 in
theorem m_rule (l : Launch) (G : va_G) (k : Nat → ClassId) (sa : Nat → Nat) (sz : Nat) (h0 : Nat) (v : Nat → Nat) : Met l yX11_rule vs_m_rule ({ frames := 4, cells := 0, slots := 0, locals := 89 } : Room) (gP G k sa [.ref h0] [(h0, .inr (11, [.ref (v 0), .int 0, .int 0, .ref (v 3), .ref (v 4), .ref (v 5), .ref (v 6), .ref (v 7), .int 0, .int 0, .int 0, .int 0, .int 0, .int 0, .int 0, .ref (v 15), .int 0, .ref (v 17), .int 0, .ref (v 19), .ref (v 20), .int (-1), .int 0, .ref (v 23), .int (-1), .int (-1), .int (-1), .int 0, .int (-1), .int 0, .ref (v 30), .int 0, .ref (v 32), .int 0, .int 0, .ref (v 35), .ref (v 36), .ref (v 37), .ref (v 38), .long 0, .ref (v 40), .ref (v 41), .ref (v 42), .ref (v 43)])), (v 4, .inl (k 0, 7, .inl (fun _ => 0))), (v 6, .inl (k 0, 6, .inl (fun _ => 0)))] sz) (va_Qi (fun r (_ : Nat → Nat) => r = (-3)) (gO G (va_A ([(h0, .inr (11, [.ref (v 0), .int 0, .int 0, .ref (v 3), .ref (v 4), .ref (v 5), .ref (v 6), .ref (v 7), .int 0, .int 0, .int 0, .int 0, .int 0, .int 0, .int 0, .ref (v 15), .int 0, .ref (v 17), .int 0, .ref (v 19), .ref (v 20), .int (-1), .int 0, .ref (v 23), .int (-1), .int (-1), .int (-1), .int 0, .int (-1), .int 0, .ref (v 30), .int 0, .ref (v 32), .int 0, .int 0, .ref (v 35), .ref (v 36), .ref (v 37), .ref (v 38), .long 0, .ref (v 40), .ref (v 41), .ref (v 42), .ref (v 43)])), (v 4, .inl (k 0, 7, .inl (fun _ => 0))), (v 6, .inl (k 0, 6, .inl (fun _ => 0)))]) sz) (fun _ => [])) (va_A ([(h0, .inr (11, [.ref (v 0), .int 0, .int 0, .ref (v 3), .ref (v 4), .ref (v 5), .ref (v 6), .ref (v 7), .int 0, .int 0, .int 0, .int 0, .int 0, .int 0, .int 0, .ref (v 15), .int 0, .ref (v 17), .int 0, .ref (v 19), .ref (v 20), .int (-1), .int 0, .ref (v 23), .int (-1), .int (-1), .int (-1), .int 0, .int (-1), .int 0, .ref (v 30), .int 0, .ref (v 32), .int 0, .int 0, .ref (v 35), .ref (v 36), .ref (v 37), .ref (v 38), .long 0, .ref (v 40), .ref (v 41), .ref (v 42), .ref (v 43)])), (v 4, .inl (k 0, 7, .inl (fun _ => 0))), (v 6, .inl (k 0, 6, .inl (fun _ => 0)))]) sz)) 0 0 (va_A ([(h0, .inr (11, [.ref (v 0), .int 0, .int 0, .ref (v 3), .ref (v 4), .ref (v 5), .ref (v 6), .ref (v 7), .int 0, .int 0, .int 0, .int 0, .int 0, .int 0, .int 0, .ref (v 15), .int 0, .ref (v 17), .int 0, .ref (v 19), .ref (v 20), .int (-1), .int 0, .ref (v 23), .int (-1), .int (-1), .int (-1), .int 0, .int (-1), .int 0, .ref (v 30), .int 0, .ref (v 32), .int 0, .int 0, .ref (v 35), .ref (v 36), .ref (v 37), .ref (v 38), .long 0, .ref (v 40), .ref (v 41), .ref (v 42), .ref (v 43)])), (v 4, .inl (k 0, 7, .inl (fun _ => 0))), (v 6, .inl (k 0, 6, .inl (fun _ => 0)))]) sz) := by
  refine gz_met (cc := cX11_rule) (maxL := 1) (ret := (some .int)) (by decide) rfl (Nat.le_of_ble_eq_true rfl) ?_
  intro p_ e_ s_ m below_ meth_ c_ ls hx hb hr hml hts hown hlocks hin hP hE hD hA hS
  generalize hAe : va_A ([(h0, .inr (11, [.ref (v 0), .int 0, .int 0, .ref (v 3), .ref (v 4), .ref (v 5), .ref (v 6), .ref (v 7), .int 0, .int 0, .int 0, .int 0, .int 0, .int 0, .int 0, .ref (v 15), .int 0, .ref (v 17), .int 0, .ref (v 19), .ref (v 20), .int (-1), .int 0, .ref (v 23), .int (-1), .int (-1), .int (-1), .int 0, .int (-1), .int 0, .ref (v 30), .int 0, .ref (v 32), .int 0, .int 0, .ref (v 35), .ref (v 36), .ref (v 37), .ref (v 38), .long 0, .ref (v 40), .ref (v 41), .ref (v 42), .ref (v 43)])), (v 4, .inl (k 0, 7, .inl (fun _ => 0))), (v 6, .inl (k 0, 6, .inl (fun _ => 0)))]) sz = A at hD hA hS ⊢
  intro hl
  have hl : lv_has ls 1 [(0, .ref h0)] := hl
  refine lv_aload_n hx hb dX11_rule_0 rfl (lv_at hl 0 rfl) ?_
  refine va_get (D := G) (ci := 11) (v := .int 0) (C := RX11) (T := TX11) (N := 44) hx hb hts j_m_rule_11 hown hE.K hP 0 rfl rfl 2 (by decide) (hts (.fieldLink RX11 272 "GossamerGateModel" "rules" "I") (List.mem_cons_of_mem _ (List.mem_append_left _ (List.mem_of_getElem? (i := 0) rfl)))) (fun _ h9 => h9) rfl dX11_rule_1 ?_
  refine lv_bipush (v := 6) hx hb dX11_rule_4 (by decide) ?_
  refine lv_icmp_ne (tgt := 11) hx hb dX11_rule_6 (by decide) (fun _ => ?_) (fun h9 => absurd h9 (by decide))
  refine lv_aload_n hx hb dX11_rule_11 rfl (lv_at hl 0 rfl) ?_
  refine lv_aload_n hx hb dX11_rule_12 rfl (lv_at hl 0 rfl) ?_
  refine va_get (D := G) (ci := 11) (v := .int 0) (C := RX11) (T := TX11) (N := 44) hx hb hts j_m_rule_11 hown hE.K hP 0 rfl rfl 2 (by decide) (hts (.fieldLink RX11 272 "GossamerGateModel" "rules" "I") (List.mem_cons_of_mem _ (List.mem_append_left _ (List.mem_of_getElem? (i := 0) rfl)))) (fun _ h9 => h9) rfl dX11_rule_13 ?_
  refine va_put (D := G) (ci := 11) (v := .int 0) (ty := .int) (C := RX11) (T := TX11) (N := 44) hx hb hts j_m_rule_11 tyX11 tyX11_ok nmX11 hown hE.K hP hD hS 0 rfl rfl 11 (by decide) (hts (.fieldLink RX11 158 "GossamerGateModel" "text" "I") (List.mem_cons_of_mem _ (List.mem_append_left _ (List.mem_of_getElem? (i := 1) rfl)))) (fun _ h9 => h9) rfl (by decide +kernel) rfl rfl (Nat.le_of_ble_eq_true rfl) dX11_rule_16 (fun H locs hP hD hS => ?_)
  have hP : va_P G vwCl [(h0, .inr (11, [.ref (v 0), .int 0, .int 0, .ref (v 3), .ref (v 4), .ref (v 5), .ref (v 6), .ref (v 7), .int 0, .int 0, .int 0, .int 0, .int 0, .int 0, .int 0, .ref (v 15), .int 0, .ref (v 17), .int 0, .ref (v 19), .ref (v 20), .int (-1), .int 0, .ref (v 23), .int (-1), .int (-1), .int (-1), .int 0, .int (-1), .int 0, .ref (v 30), .int 0, .ref (v 32), .int 0, .int 0, .ref (v 35), .ref (v 36), .ref (v 37), .ref (v 38), .long 0, .ref (v 40), .ref (v 41), .ref (v 42), .ref (v 43)])), (v 4, .inl (k 0, 7, .inl (fun _ => 0))), (v 6, .inl (k 0, 6, .inl (fun _ => 0)))] H := hP
  have hD : va_D A [(h0, .inr (11, [.ref (v 0), .int 0, .int 0, .ref (v 3), .ref (v 4), .ref (v 5), .ref (v 6), .ref (v 7), .int 0, .int 0, .int 0, .int 0, .int 0, .int 0, .int 0, .ref (v 15), .int 0, .ref (v 17), .int 0, .ref (v 19), .ref (v 20), .int (-1), .int 0, .ref (v 23), .int (-1), .int (-1), .int (-1), .int 0, .int (-1), .int 0, .ref (v 30), .int 0, .ref (v 32), .int 0, .int 0, .ref (v 35), .ref (v 36), .ref (v 37), .ref (v 38), .long 0, .ref (v 40), .ref (v 41), .ref (v 42), .ref (v 43)])), (v 4, .inl (k 0, 7, .inl (fun _ => 0))), (v 6, .inl (k 0, 6, .inl (fun _ => 0)))] := hD
  refine lv_aload_n hx hb dX11_rule_19 rfl (lv_at hl 0 rfl) ?_
  refine va_get (D := G) (ci := 11) (v := .ref (v 6)) (C := RX11) (T := TX11) (N := 44) hx hb hts j_m_rule_11 hown hE.K hP 0 rfl rfl 6 (by decide) (hts (.fieldLink RX11 23 "GossamerGateModel" "clauses" "[I") (List.mem_cons_of_mem _ (List.mem_append_left _ (List.mem_of_getElem? (i := 2) rfl)))) (fun _ h9 => h9) rfl dX11_rule_20 ?_
  refine lv_aload_n hx hb dX11_rule_23 rfl (lv_at hl 0 rfl) ?_
  refine va_get (D := G) (ci := 11) (v := .int 0) (C := RX11) (T := TX11) (N := 44) hx hb hts j_m_rule_11 hown hE.K hP 0 rfl rfl 11 (by decide) (hts (.fieldLink RX11 158 "GossamerGateModel" "text" "I") (List.mem_cons_of_mem _ (List.mem_append_left _ (List.mem_of_getElem? (i := 1) rfl)))) (fun _ h9 => h9) rfl dX11_rule_24 ?_
  refine lv_iconst (v := 0) hx hb dX11_rule_27 (by decide) ?_
  refine va_iast hx hb hE.K hP hD hS 2 0 rfl rfl (gz_in (by decide)) dX11_rule_28 (fun H locs hP hD hS => ?_)
  have hP : va_P G vwCl [(h0, .inr (11, [.ref (v 0), .int 0, .int 0, .ref (v 3), .ref (v 4), .ref (v 5), .ref (v 6), .ref (v 7), .int 0, .int 0, .int 0, .int 0, .int 0, .int 0, .int 0, .ref (v 15), .int 0, .ref (v 17), .int 0, .ref (v 19), .ref (v 20), .int (-1), .int 0, .ref (v 23), .int (-1), .int (-1), .int (-1), .int 0, .int (-1), .int 0, .ref (v 30), .int 0, .ref (v 32), .int 0, .int 0, .ref (v 35), .ref (v 36), .ref (v 37), .ref (v 38), .long 0, .ref (v 40), .ref (v 41), .ref (v 42), .ref (v 43)])), (v 4, .inl (k 0, 7, .inl (fun _ => 0))), (v 6, .inl (k 0, 6, .inl (upd (fun _ => 0) 0 0)))] H := hP
  have hD : va_D A [(h0, .inr (11, [.ref (v 0), .int 0, .int 0, .ref (v 3), .ref (v 4), .ref (v 5), .ref (v 6), .ref (v 7), .int 0, .int 0, .int 0, .int 0, .int 0, .int 0, .int 0, .ref (v 15), .int 0, .ref (v 17), .int 0, .ref (v 19), .ref (v 20), .int (-1), .int 0, .ref (v 23), .int (-1), .int (-1), .int (-1), .int 0, .int (-1), .int 0, .ref (v 30), .int 0, .ref (v 32), .int 0, .int 0, .ref (v 35), .ref (v 36), .ref (v 37), .ref (v 38), .long 0, .ref (v 40), .ref (v 41), .ref (v 42), .ref (v 43)])), (v 4, .inl (k 0, 7, .inl (fun _ => 0))), (v 6, .inl (k 0, 6, .inl (upd (fun _ => 0) 0 0)))] := hD
  refine lv_aload_n hx hb dX11_rule_29 rfl (lv_at hl 0 rfl) ?_
  refine gz_i (wc := [(h0, .inr (11, [.ref (v 0), .int 0, .int 0, .ref (v 3), .ref (v 4), .ref (v 5), .ref (v 6), .ref (v 7), .int 0, .int 0, .int 0, .int 0, .int 0, .int 0, .int 0, .ref (v 15), .int 0, .ref (v 17), .int 0, .ref (v 19), .ref (v 20), .int (-1), .int 0, .ref (v 23), .int (-1), .int (-1), .int (-1), .int 0, .int (-1), .int 0, .ref (v 30), .int 0, .ref (v 32), .int 0, .int 0, .ref (v 35), .ref (v 36), .ref (v 37), .ref (v 38), .long 0, .ref (v 40), .ref (v 41), .ref (v 42), .ref (v 43)])), (v 4, .inl (k 0, 7, .inl (fun _ => 0)))]) (wr := [(v 6, .inl (k 0, 6, .inl (upd (fun _ => 0) 0 0)))]) hP hD hS hA [0, 1] [2] rfl rfl (by decide) (by decide) (va_runV (As := []) (rest := []) ⟨hx, hb, hml, hown, hts⟩ (m_readsAll_r l G k sa _ h0 v) (cwV 0 hts g_m_rule_275_m_readsAll_r rfl rfl rfl (by decide +kernel) ⟨(Nat.le_of_ble_eq_true rfl), (Nat.le_of_ble_eq_true rfl)⟩) ⟨gP.bl, va_recv hE.K hP (ci := 11) (q0 := 0) rfl rfl, (gP.pre (wc := [(h0, .inr (11, [.ref (v 0), .int 0, .int 0, .ref (v 3), .ref (v 4), .ref (v 5), .ref (v 6), .ref (v 7), .int 0, .int 0, .int 0, .int 0, .int 0, .int 0, .int 0, .ref (v 15), .int 0, .ref (v 17), .int 0, .ref (v 19), .ref (v 20), .int (-1), .int 0, .ref (v 23), .int (-1), .int (-1), .int (-1), .int 0, .int (-1), .int 0, .ref (v 30), .int 0, .ref (v 32), .int 0, .int 0, .ref (v 35), .ref (v 36), .ref (v 37), .ref (v 38), .long 0, .ref (v 40), .ref (v 41), .ref (v 42), .ref (v 43)])), (v 4, .inl (k 0, 7, .inl (fun _ => 0)))]) hE hP hD [0, 1] rfl (by decide))⟩ rfl rfl hl.1 rfl (lv_room (Nat.le_of_ble_eq_true rfl)) dX11_rule_30 ⟨(Nat.le_of_ble_eq_true rfl), (Nat.le_of_ble_eq_true rfl)⟩) (fun r_2 u_1 H locs hr_2 hP hD hS => ?_)
  have hP : va_P G vwCl [(v 6, .inl (k 0, 6, .inl (upd (fun _ => 0) 0 0))), (h0, .inr (11, [.ref (v 0), .int 0, .int 0, .ref (v 3), .ref (v 4), .ref (v 5), .ref (v 6), .ref (v 7), .int 0, .int 1, .int 0, .int 0, .int 0, .int 0, .int 0, .ref (v 15), .int 0, .ref (v 17), .int 0, .ref (v 19), .ref (v 20), .int (-1), .int 0, .ref (v 23), .int (-1), .int (-1), .int (-1), .int 0, .int (-1), .int 0, .ref (v 30), .int 0, .ref (v 32), .int 0, .int 0, .ref (v 35), .ref (v 36), .ref (v 37), .ref (v 38), .long 0, .ref (v 40), .ref (v 41), .ref (v 42), .ref (v 43)]))] H := hP
  have hD : va_D A [(v 6, .inl (k 0, 6, .inl (upd (fun _ => 0) 0 0))), (h0, .inr (11, [.ref (v 0), .int 0, .int 0, .ref (v 3), .ref (v 4), .ref (v 5), .ref (v 6), .ref (v 7), .int 0, .int 1, .int 0, .int 0, .int 0, .int 0, .int 0, .ref (v 15), .int 0, .ref (v 17), .int 0, .ref (v 19), .ref (v 20), .int (-1), .int 0, .ref (v 23), .int (-1), .int (-1), .int (-1), .int 0, .int (-1), .int 0, .ref (v 30), .int 0, .ref (v 32), .int 0, .int 0, .ref (v 35), .ref (v 36), .ref (v 37), .ref (v 38), .long 0, .ref (v 40), .ref (v 41), .ref (v 42), .ref (v 43)]))] := hD
  obtain rfl : r_2 = 0 := hr_2
  refine lv_if_ne (tgt := 44) hx hb dX11_rule_33 (by decide) (fun h9 => absurd h9 (by decide)) (fun _ => ?_)
  refine lv_bipush (v := (-2)) hx hb dX11_rule_36 (by decide) ?_
  refine lv_aload_n hx hb dX11_rule_38 rfl (lv_at hl 0 rfl) ?_
  refine va_get (D := G) (ci := 11) (v := .int 1) (C := RX11) (T := TX11) (N := 44) hx hb hts j_m_rule_11 hown hE.K hP 1 rfl rfl 9 (by decide) (hts (.fieldLink RX11 99 "GossamerGateModel" "wrong" "I") (List.mem_cons_of_mem _ (List.mem_append_left _ (List.mem_of_getElem? (i := 7) rfl)))) (fun _ h9 => h9) rfl dX11_rule_39 ?_
  refine lv_isub hx hb dX11_rule_42 ?_
  refine gz_ni (v := (-3)) (by decide) ?_
  have hP9 := hP.sub (ws' := []) [] rfl
  have hD9 := hD.sub (ws' := []) [] (by decide) rfl
  exact W.iret (v := (-3)) hx hb hr (fun t ht hW => ⟨⟨(-3), (fun _ => 0), rfl, rfl, by rw [ht]; exact hP9, hD9⟩, hS.F ht⟩) hS.2.2 dX11_rule_43
set_option maxHeartbeats 4000000 in
set_option maxRecDepth 100000 in
theorem m_country (l : Launch) (G : va_G) (k : Nat → ClassId) (sa : Nat → Nat) (sz : Nat) (h0 : Nat) (v : Nat → Nat) : Met l yX11_country vs_m_country ({ frames := 5, cells := 0, slots := 0, locals := 109 } : Room) (gP G k sa [.ref h0] [(h0, .inr (11, [.ref (v 0), .int 0, .int 0, .ref (v 3), .ref (v 4), .ref (v 5), .ref (v 6), .ref (v 7), .int 0, .int 0, .int 0, .int 0, .int 0, .int 0, .int 0, .ref (v 15), .int 0, .ref (v 17), .int 0, .ref (v 19), .ref (v 20), .int (-1), .int 0, .ref (v 23), .int (-1), .int (-1), .int (-1), .int 0, .int (-1), .int 0, .ref (v 30), .int 0, .ref (v 32), .int 0, .int 0, .ref (v 35), .ref (v 36), .ref (v 37), .ref (v 38), .long 0, .ref (v 40), .ref (v 41), .ref (v 42), .ref (v 43)])), (v 4, .inl (k 0, 7, .inl (fun _ => 0))), (v 7, .inl (k 0, 175, .inl (fun _ => 0)))] sz) (va_Qi (fun r (_ : Nat → Nat) => r = (-3)) (gO G (va_A ([(h0, .inr (11, [.ref (v 0), .int 0, .int 0, .ref (v 3), .ref (v 4), .ref (v 5), .ref (v 6), .ref (v 7), .int 0, .int 0, .int 0, .int 0, .int 0, .int 0, .int 0, .ref (v 15), .int 0, .ref (v 17), .int 0, .ref (v 19), .ref (v 20), .int (-1), .int 0, .ref (v 23), .int (-1), .int (-1), .int (-1), .int 0, .int (-1), .int 0, .ref (v 30), .int 0, .ref (v 32), .int 0, .int 0, .ref (v 35), .ref (v 36), .ref (v 37), .ref (v 38), .long 0, .ref (v 40), .ref (v 41), .ref (v 42), .ref (v 43)])), (v 4, .inl (k 0, 7, .inl (fun _ => 0))), (v 7, .inl (k 0, 175, .inl (fun _ => 0)))]) sz) (fun _ => [])) (va_A ([(h0, .inr (11, [.ref (v 0), .int 0, .int 0, .ref (v 3), .ref (v 4), .ref (v 5), .ref (v 6), .ref (v 7), .int 0, .int 0, .int 0, .int 0, .int 0, .int 0, .int 0, .ref (v 15), .int 0, .ref (v 17), .int 0, .ref (v 19), .ref (v 20), .int (-1), .int 0, .ref (v 23), .int (-1), .int (-1), .int (-1), .int 0, .int (-1), .int 0, .ref (v 30), .int 0, .ref (v 32), .int 0, .int 0, .ref (v 35), .ref (v 36), .ref (v 37), .ref (v 38), .long 0, .ref (v 40), .ref (v 41), .ref (v 42), .ref (v 43)])), (v 4, .inl (k 0, 7, .inl (fun _ => 0))), (v 7, .inl (k 0, 175, .inl (fun _ => 0)))]) sz)) 0 0 (va_A ([(h0, .inr (11, [.ref (v 0), .int 0, .int 0, .ref (v 3), .ref (v 4), .ref (v 5), .ref (v 6), .ref (v 7), .int 0, .int 0, .int 0, .int 0, .int 0, .int 0, .int 0, .ref (v 15), .int 0, .ref (v 17), .int 0, .ref (v 19), .ref (v 20), .int (-1), .int 0, .ref (v 23), .int (-1), .int (-1), .int (-1), .int 0, .int (-1), .int 0, .ref (v 30), .int 0, .ref (v 32), .int 0, .int 0, .ref (v 35), .ref (v 36), .ref (v 37), .ref (v 38), .long 0, .ref (v 40), .ref (v 41), .ref (v 42), .ref (v 43)])), (v 4, .inl (k 0, 7, .inl (fun _ => 0))), (v 7, .inl (k 0, 175, .inl (fun _ => 0)))]) sz) := by
  refine gz_met (cc := cX11_country) (maxL := 2) (ret := (some .int)) (by decide) rfl (Nat.le_of_ble_eq_true rfl) ?_
  intro p_ e_ s_ m below_ meth_ c_ ls hx hb hr hml hts hown hlocks hin hP hE hD hA hS
  generalize hAe : va_A ([(h0, .inr (11, [.ref (v 0), .int 0, .int 0, .ref (v 3), .ref (v 4), .ref (v 5), .ref (v 6), .ref (v 7), .int 0, .int 0, .int 0, .int 0, .int 0, .int 0, .int 0, .ref (v 15), .int 0, .ref (v 17), .int 0, .ref (v 19), .ref (v 20), .int (-1), .int 0, .ref (v 23), .int (-1), .int (-1), .int (-1), .int 0, .int (-1), .int 0, .ref (v 30), .int 0, .ref (v 32), .int 0, .int 0, .ref (v 35), .ref (v 36), .ref (v 37), .ref (v 38), .long 0, .ref (v 40), .ref (v 41), .ref (v 42), .ref (v 43)])), (v 4, .inl (k 0, 7, .inl (fun _ => 0))), (v 7, .inl (k 0, 175, .inl (fun _ => 0)))]) sz = A at hD hA hS ⊢
  intro hl
  have hl : lv_has ls 2 [(0, .ref h0)] := hl
  refine lv_aload_n hx hb dX11_country_0 rfl (lv_at hl 0 rfl) ?_
  refine lv_bipush (v := 6) hx hb dX11_country_1 (by decide) ?_
  refine va_put (D := G) (ci := 11) (v := .int 6) (ty := .int) (C := RX11) (T := TX11) (N := 44) hx hb hts j_m_country_11 tyX11 tyX11_ok nmX11 hown hE.K hP hD hS 0 rfl rfl 11 (by decide) (hts (.fieldLink RX11 158 "GossamerGateModel" "text" "I") (List.mem_cons_of_mem _ (List.mem_append_left _ (List.mem_of_getElem? (i := 0) rfl)))) (fun _ h9 => h9) rfl (by decide +kernel) rfl rfl (Nat.le_of_ble_eq_true rfl) dX11_country_3 (fun H locs hP hD hS => ?_)
  have hP : va_P G vwCl [(h0, .inr (11, [.ref (v 0), .int 0, .int 0, .ref (v 3), .ref (v 4), .ref (v 5), .ref (v 6), .ref (v 7), .int 0, .int 0, .int 0, .int 6, .int 0, .int 0, .int 0, .ref (v 15), .int 0, .ref (v 17), .int 0, .ref (v 19), .ref (v 20), .int (-1), .int 0, .ref (v 23), .int (-1), .int (-1), .int (-1), .int 0, .int (-1), .int 0, .ref (v 30), .int 0, .ref (v 32), .int 0, .int 0, .ref (v 35), .ref (v 36), .ref (v 37), .ref (v 38), .long 0, .ref (v 40), .ref (v 41), .ref (v 42), .ref (v 43)])), (v 4, .inl (k 0, 7, .inl (fun _ => 0))), (v 7, .inl (k 0, 175, .inl (fun _ => 0)))] H := hP
  have hD : va_D A [(h0, .inr (11, [.ref (v 0), .int 0, .int 0, .ref (v 3), .ref (v 4), .ref (v 5), .ref (v 6), .ref (v 7), .int 0, .int 0, .int 0, .int 6, .int 0, .int 0, .int 0, .ref (v 15), .int 0, .ref (v 17), .int 0, .ref (v 19), .ref (v 20), .int (-1), .int 0, .ref (v 23), .int (-1), .int (-1), .int (-1), .int 0, .int (-1), .int 0, .ref (v 30), .int 0, .ref (v 32), .int 0, .int 0, .ref (v 35), .ref (v 36), .ref (v 37), .ref (v 38), .long 0, .ref (v 40), .ref (v 41), .ref (v 42), .ref (v 43)])), (v 4, .inl (k 0, 7, .inl (fun _ => 0))), (v 7, .inl (k 0, 175, .inl (fun _ => 0)))] := hD
  refine lv_iconst (v := 0) hx hb dX11_country_6 (by decide) ?_
  refine lv_istore_n (lv' := [(1, .int 0), (0, .ref h0)]) hx hb dX11_country_7 rfl hl (by decide) rfl (fun ls hl => ?_)
  have hL_8 : ∀ (n : Nat) (j : Nat) (f : Nat → Int32) (ls : Array Slot) (H : Heap) (locs : List Loc), (j ≤ 175) → (175 - j) < n → va_P G vwCl [(h0, .inr (11, [.ref (v 0), .int 0, .int 0, .ref (v 3), .ref (v 4), .ref (v 5), .ref (v 6), .ref (v 7), .int 0, .int 0, .int 0, .int 6, .int 0, .int 0, .int 0, .ref (v 15), .int 0, .ref (v 17), .int 0, .ref (v 19), .ref (v 20), .int (-1), .int 0, .ref (v 23), .int (-1), .int (-1), .int (-1), .int 0, .int (-1), .int 0, .ref (v 30), .int 0, .ref (v 32), .int 0, .int 0, .ref (v 35), .ref (v 36), .ref (v 37), .ref (v 38), .long 0, .ref (v 40), .ref (v 41), .ref (v 42), .ref (v 43)])), (v 4, .inl (k 0, 7, .inl (fun _ => 0))), (v 7, .inl (k 0, 175, .inl f))] H → va_D A [(h0, .inr (11, [.ref (v 0), .int 0, .int 0, .ref (v 3), .ref (v 4), .ref (v 5), .ref (v 6), .ref (v 7), .int 0, .int 0, .int 0, .int 6, .int 0, .int 0, .int 0, .ref (v 15), .int 0, .ref (v 17), .int 0, .ref (v 19), .ref (v 20), .int (-1), .int 0, .ref (v 23), .int (-1), .int (-1), .int (-1), .int 0, .int (-1), .int 0, .ref (v 30), .int 0, .ref (v 32), .int 0, .int 0, .ref (v 35), .ref (v 36), .ref (v 37), .ref (v 38), .long 0, .ref (v 40), .ref (v 41), .ref (v 42), .ref (v 43)])), (v 4, .inl (k 0, 7, .inl (fun _ => 0))), (v 7, .inl (k 0, 175, .inl f))] → va_S A s_.heap H locs → lv_has ls 2 [(0, .ref h0), (1, .int (nI j))] → W p_ l e_ (headSpec vs_m_country ({ frames := 5, cells := 0, slots := 0, locals := 109 } : Room)).room s_ m [.ref h0].toArray below_ meth_ c_ H locs 0 0 (MQ below_ (va_Qi (fun r (_ : Nat → Nat) => r = (-3)) (gO G A (fun _ => [])) A) [.ref h0].toArray s_ 0 0 A) (F0 m 8 ls []) := by
    intro n
    induction n with
    | zero => intro j f ls H locs hj hm hP hD hS hl; exact absurd hm (Nat.not_lt_zero _)
    | succ n ih =>
      intro j f ls H locs hj hm hP hD hS hl
      refine lv_iload_n hx hb dX11_country_8 rfl (lv_at hl 1 rfl) ?_
      refine lv_sipush (v := 175) hx hb dX11_country_9 (by decide) ?_
      refine lv_icmp_ge (tgt := 28) hx hb dX11_country_12 (by decide) (fun c_1 => ?_) (fun c_1 => ?_)
      · have h_2 : 175 ≤ j := (nI_leI (a := 175) (b := j) (by decide) (by omega)).mp c_1
        refine lv_aload_n hx hb dX11_country_28 rfl (lv_at hl 0 rfl) ?_
        refine gz_i (wc := [(h0, .inr (11, [.ref (v 0), .int 0, .int 0, .ref (v 3), .ref (v 4), .ref (v 5), .ref (v 6), .ref (v 7), .int 0, .int 0, .int 0, .int 6, .int 0, .int 0, .int 0, .ref (v 15), .int 0, .ref (v 17), .int 0, .ref (v 19), .ref (v 20), .int (-1), .int 0, .ref (v 23), .int (-1), .int (-1), .int (-1), .int 0, .int (-1), .int 0, .ref (v 30), .int 0, .ref (v 32), .int 0, .int 0, .ref (v 35), .ref (v 36), .ref (v 37), .ref (v 38), .long 0, .ref (v 40), .ref (v 41), .ref (v 42), .ref (v 43)])), (v 4, .inl (k 0, 7, .inl (fun _ => 0)))]) (wr := [(v 7, .inl (k 0, 175, .inl f))]) hP hD hS hA [0, 1] [2] rfl rfl (by decide) (by decide) (va_runV (As := []) (rest := []) ⟨hx, hb, hml, hown, hts⟩ (m_readsAll_c l G k sa _ h0 v) (cwV 0 hts g_m_country_275_m_readsAll_c rfl rfl rfl (by decide +kernel) ⟨(Nat.le_of_ble_eq_true rfl), (Nat.le_of_ble_eq_true rfl)⟩) ⟨gP.bl, va_recv hE.K hP (ci := 11) (q0 := 0) rfl rfl, (gP.pre (wc := [(h0, .inr (11, [.ref (v 0), .int 0, .int 0, .ref (v 3), .ref (v 4), .ref (v 5), .ref (v 6), .ref (v 7), .int 0, .int 0, .int 0, .int 6, .int 0, .int 0, .int 0, .ref (v 15), .int 0, .ref (v 17), .int 0, .ref (v 19), .ref (v 20), .int (-1), .int 0, .ref (v 23), .int (-1), .int (-1), .int (-1), .int 0, .int (-1), .int 0, .ref (v 30), .int 0, .ref (v 32), .int 0, .int 0, .ref (v 35), .ref (v 36), .ref (v 37), .ref (v 38), .long 0, .ref (v 40), .ref (v 41), .ref (v 42), .ref (v 43)])), (v 4, .inl (k 0, 7, .inl (fun _ => 0)))]) hE hP hD [0, 1] rfl (by decide))⟩ rfl rfl hl.1 rfl (lv_room (Nat.le_of_ble_eq_true rfl)) dX11_country_29 ⟨(Nat.le_of_ble_eq_true rfl), (Nat.le_of_ble_eq_true rfl)⟩) (fun r_4 u_3 H locs hr_4 hP hD hS => ?_)
        have hP : va_P G vwCl [(v 7, .inl (k 0, 175, .inl f)), (h0, .inr (11, [.ref (v 0), .int 0, .int 0, .ref (v 3), .ref (v 4), .ref (v 5), .ref (v 6), .ref (v 7), .int 0, .int 1, .int 0, .int 6, .int 0, .int 0, .int 0, .ref (v 15), .int 0, .ref (v 17), .int 0, .ref (v 19), .ref (v 20), .int (-1), .int 0, .ref (v 23), .int (-1), .int (-1), .int (-1), .int 0, .int (-1), .int 0, .ref (v 30), .int 0, .ref (v 32), .int 0, .int 0, .ref (v 35), .ref (v 36), .ref (v 37), .ref (v 38), .long 0, .ref (v 40), .ref (v 41), .ref (v 42), .ref (v 43)]))] H := hP
        have hD : va_D A [(v 7, .inl (k 0, 175, .inl f)), (h0, .inr (11, [.ref (v 0), .int 0, .int 0, .ref (v 3), .ref (v 4), .ref (v 5), .ref (v 6), .ref (v 7), .int 0, .int 1, .int 0, .int 6, .int 0, .int 0, .int 0, .ref (v 15), .int 0, .ref (v 17), .int 0, .ref (v 19), .ref (v 20), .int (-1), .int 0, .ref (v 23), .int (-1), .int (-1), .int (-1), .int 0, .int (-1), .int 0, .ref (v 30), .int 0, .ref (v 32), .int 0, .int 0, .ref (v 35), .ref (v 36), .ref (v 37), .ref (v 38), .long 0, .ref (v 40), .ref (v 41), .ref (v 42), .ref (v 43)]))] := hD
        obtain rfl : r_4 = 0 := hr_4
        refine lv_if_ne (tgt := 43) hx hb dX11_country_32 (by decide) (fun h9 => absurd h9 (by decide)) (fun _ => ?_)
        refine lv_bipush (v := (-2)) hx hb dX11_country_35 (by decide) ?_
        refine lv_aload_n hx hb dX11_country_37 rfl (lv_at hl 0 rfl) ?_
        refine va_get (D := G) (ci := 11) (v := .int 1) (C := RX11) (T := TX11) (N := 44) hx hb hts j_m_country_11 hown hE.K hP 1 rfl rfl 9 (by decide) (hts (.fieldLink RX11 99 "GossamerGateModel" "wrong" "I") (List.mem_cons_of_mem _ (List.mem_append_left _ (List.mem_of_getElem? (i := 5) rfl)))) (fun _ h9 => h9) rfl dX11_country_38 ?_
        refine lv_isub hx hb dX11_country_41 ?_
        refine gz_ni (v := (-3)) (by decide) ?_
        have hP9 := hP.sub (ws' := []) [] rfl
        have hD9 := hD.sub (ws' := []) [] (by decide) rfl
        exact W.iret (v := (-3)) hx hb hr (fun t ht hW => ⟨⟨(-3), (fun _ => 0), rfl, rfl, by rw [ht]; exact hP9, hD9⟩, hS.F ht⟩) hS.2.2 dX11_country_42
      · have h_5 : j < 175 := Nat.lt_of_not_le (fun q => c_1 ((nI_leI (a := 175) (b := j) (by decide) (by omega)).mpr q))
        refine lv_aload_n hx hb dX11_country_15 rfl (lv_at hl 0 rfl) ?_
        refine va_get (D := G) (ci := 11) (v := .ref (v 7)) (C := RX11) (T := TX11) (N := 44) hx hb hts j_m_country_11 hown hE.K hP 0 rfl rfl 7 (by decide) (hts (.fieldLink RX11 26 "GossamerGateModel" "read" "[I") (List.mem_cons_of_mem _ (List.mem_append_left _ (List.mem_of_getElem? (i := 6) rfl)))) (fun _ h9 => h9) rfl dX11_country_16 ?_
        refine lv_iload_n hx hb dX11_country_19 rfl (lv_at hl 1 rfl) ?_
        refine lv_iconst (v := 0) hx hb dX11_country_20 (by decide) ?_
        refine va_iast hx hb hE.K hP hD hS 2 0 rfl rfl (vp_in_nI (by omega) (by decide)) dX11_country_21 (fun H locs hP hD hS => ?_)
        have hP : va_P G vwCl [(h0, .inr (11, [.ref (v 0), .int 0, .int 0, .ref (v 3), .ref (v 4), .ref (v 5), .ref (v 6), .ref (v 7), .int 0, .int 0, .int 0, .int 6, .int 0, .int 0, .int 0, .ref (v 15), .int 0, .ref (v 17), .int 0, .ref (v 19), .ref (v 20), .int (-1), .int 0, .ref (v 23), .int (-1), .int (-1), .int (-1), .int 0, .int (-1), .int 0, .ref (v 30), .int 0, .ref (v 32), .int 0, .int 0, .ref (v 35), .ref (v 36), .ref (v 37), .ref (v 38), .long 0, .ref (v 40), .ref (v 41), .ref (v 42), .ref (v 43)])), (v 4, .inl (k 0, 7, .inl (fun _ => 0))), (v 7, .inl (k 0, 175, .inl (upd f (Int32.toNatClampNeg (nI j)) 0)))] H := hP
        have hD : va_D A [(h0, .inr (11, [.ref (v 0), .int 0, .int 0, .ref (v 3), .ref (v 4), .ref (v 5), .ref (v 6), .ref (v 7), .int 0, .int 0, .int 0, .int 6, .int 0, .int 0, .int 0, .ref (v 15), .int 0, .ref (v 17), .int 0, .ref (v 19), .ref (v 20), .int (-1), .int 0, .ref (v 23), .int (-1), .int (-1), .int (-1), .int 0, .int (-1), .int 0, .ref (v 30), .int 0, .ref (v 32), .int 0, .int 0, .ref (v 35), .ref (v 36), .ref (v 37), .ref (v 38), .long 0, .ref (v 40), .ref (v 41), .ref (v 42), .ref (v 43)])), (v 4, .inl (k 0, 7, .inl (fun _ => 0))), (v 7, .inl (k 0, 175, .inl (upd f (Int32.toNatClampNeg (nI j)) 0)))] := hD
        refine lv_iinc (v := (nI (j + 1))) (lv' := [(1, .int (nI (j + 1))), (0, .ref h0)]) hx hb dX11_country_22 hl (k := 1) rfl (nI_1 _) (by decide) rfl (fun ls hl => ?_)
        refine lv_goto (tgt := 8) hx hb dX11_country_25 (by decide) ?_
        exact ih (j + 1) (upd f (Int32.toNatClampNeg (nI j)) 0) ls H locs (by omega) (by omega) hP hD hS (lv_sub hl [1, 0] rfl)
  exact hL_8 _ 0 (fun _ => 0) ls H locs (by omega) (Nat.lt_succ_self _) hP hD hS (lv_sub hl [1, 0] rfl)
set_option maxHeartbeats 4000000 in
set_option maxRecDepth 100000 in
theorem m_image (l : Launch) (G : va_G) (k : Nat → ClassId) (sa : Nat → Nat) (sz : Nat) (h0 : Nat) (v : Nat → Nat) (a : Int32) : Met l yX11_image vs_m_image ({ frames := 1, cells := 0, slots := 0, locals := 25 } : Room) (gP G k sa [.ref h0, .int a] [(h0, .inr (11, [.ref (v 0), .int 0, .int 0, .ref (v 3), .ref (v 4), .ref (v 5), .ref (v 6), .ref (v 7), .int 0, .int 0, .int 0, .int 0, .int 0, .int 0, .int 0, .ref (v 15), .int 0, .ref (v 17), .int 0, .ref (v 19), .ref (v 20), .int (-1), .int 0, .ref (v 23), .int (-1), .int (-1), .int (-1), .int 0, .int (-1), .int 0, .ref (v 30), .int 0, .ref (v 32), .int 0, .int 0, .ref (v 35), .ref (v 36), .ref (v 37), .ref (v 38), .long 0, .ref (v 40), .ref (v 41), .ref (v 42), .ref (v 43)])), (v 20, .inl (k 0, 206, .inl (fun _ => 0))), (v 40, .inl (k 0, 824, .inl (fun _ => 0))), (v 41, .inl (k 0, 4, .inl (fun _ => 0))), (v 42, .inl (k 0, 4, .inl (fun _ => 0))), (v 43, .inl (k 2, 4, .inl (fun _ => 0)))] sz) (va_Qi (fun r (_ : Nat → Nat) => (r = 0 ∧ ((0 : Int64) ≤ a.toInt64 ∧ a.toInt64 ≤ 3)) ∨ (r = (-1) ∧ (¬ ((0 : Int64) ≤ a.toInt64 ∧ a.toInt64 ≤ 3)))) (gO G (va_A ([(h0, .inr (11, [.ref (v 0), .int 0, .int 0, .ref (v 3), .ref (v 4), .ref (v 5), .ref (v 6), .ref (v 7), .int 0, .int 0, .int 0, .int 0, .int 0, .int 0, .int 0, .ref (v 15), .int 0, .ref (v 17), .int 0, .ref (v 19), .ref (v 20), .int (-1), .int 0, .ref (v 23), .int (-1), .int (-1), .int (-1), .int 0, .int (-1), .int 0, .ref (v 30), .int 0, .ref (v 32), .int 0, .int 0, .ref (v 35), .ref (v 36), .ref (v 37), .ref (v 38), .long 0, .ref (v 40), .ref (v 41), .ref (v 42), .ref (v 43)])), (v 20, .inl (k 0, 206, .inl (fun _ => 0))), (v 40, .inl (k 0, 824, .inl (fun _ => 0))), (v 41, .inl (k 0, 4, .inl (fun _ => 0))), (v 42, .inl (k 0, 4, .inl (fun _ => 0))), (v 43, .inl (k 2, 4, .inl (fun _ => 0)))]) sz) (fun _ => [])) (va_A ([(h0, .inr (11, [.ref (v 0), .int 0, .int 0, .ref (v 3), .ref (v 4), .ref (v 5), .ref (v 6), .ref (v 7), .int 0, .int 0, .int 0, .int 0, .int 0, .int 0, .int 0, .ref (v 15), .int 0, .ref (v 17), .int 0, .ref (v 19), .ref (v 20), .int (-1), .int 0, .ref (v 23), .int (-1), .int (-1), .int (-1), .int 0, .int (-1), .int 0, .ref (v 30), .int 0, .ref (v 32), .int 0, .int 0, .ref (v 35), .ref (v 36), .ref (v 37), .ref (v 38), .long 0, .ref (v 40), .ref (v 41), .ref (v 42), .ref (v 43)])), (v 20, .inl (k 0, 206, .inl (fun _ => 0))), (v 40, .inl (k 0, 824, .inl (fun _ => 0))), (v 41, .inl (k 0, 4, .inl (fun _ => 0))), (v 42, .inl (k 0, 4, .inl (fun _ => 0))), (v 43, .inl (k 2, 4, .inl (fun _ => 0)))]) sz)) 0 0 (va_A ([(h0, .inr (11, [.ref (v 0), .int 0, .int 0, .ref (v 3), .ref (v 4), .ref (v 5), .ref (v 6), .ref (v 7), .int 0, .int 0, .int 0, .int 0, .int 0, .int 0, .int 0, .ref (v 15), .int 0, .ref (v 17), .int 0, .ref (v 19), .ref (v 20), .int (-1), .int 0, .ref (v 23), .int (-1), .int (-1), .int (-1), .int 0, .int (-1), .int 0, .ref (v 30), .int 0, .ref (v 32), .int 0, .int 0, .ref (v 35), .ref (v 36), .ref (v 37), .ref (v 38), .long 0, .ref (v 40), .ref (v 41), .ref (v 42), .ref (v 43)])), (v 20, .inl (k 0, 206, .inl (fun _ => 0))), (v 40, .inl (k 0, 824, .inl (fun _ => 0))), (v 41, .inl (k 0, 4, .inl (fun _ => 0))), (v 42, .inl (k 0, 4, .inl (fun _ => 0))), (v 43, .inl (k 2, 4, .inl (fun _ => 0)))]) sz) := by
  refine gz_met (cc := cX11_image) (maxL := 3) (ret := (some .int)) (by decide) rfl (Nat.le_of_ble_eq_true rfl) ?_
  intro p_ e_ s_ m below_ meth_ c_ ls hx hb hr hml hts hown hlocks hin hP hE hD hA hS
  generalize hAe : va_A ([(h0, .inr (11, [.ref (v 0), .int 0, .int 0, .ref (v 3), .ref (v 4), .ref (v 5), .ref (v 6), .ref (v 7), .int 0, .int 0, .int 0, .int 0, .int 0, .int 0, .int 0, .ref (v 15), .int 0, .ref (v 17), .int 0, .ref (v 19), .ref (v 20), .int (-1), .int 0, .ref (v 23), .int (-1), .int (-1), .int (-1), .int 0, .int (-1), .int 0, .ref (v 30), .int 0, .ref (v 32), .int 0, .int 0, .ref (v 35), .ref (v 36), .ref (v 37), .ref (v 38), .long 0, .ref (v 40), .ref (v 41), .ref (v 42), .ref (v 43)])), (v 20, .inl (k 0, 206, .inl (fun _ => 0))), (v 40, .inl (k 0, 824, .inl (fun _ => 0))), (v 41, .inl (k 0, 4, .inl (fun _ => 0))), (v 42, .inl (k 0, 4, .inl (fun _ => 0))), (v 43, .inl (k 2, 4, .inl (fun _ => 0)))]) sz = A at hD hA hS ⊢
  intro hl
  have hl : lv_has ls 3 [(0, .ref h0), (1, .int a)] := hl
  refine lv_iload_n hx hb dX11_image_0 rfl (lv_at hl 1 rfl) ?_
  refine lv_i2l (v := a.toInt64) hx hb dX11_image_1 rfl ?_
  refine lv_lconst (v := 0) hx hb dX11_image_2 (by decide) ?_
  refine lv_ldc2 (v := 3) hx hb hown (hts (.constantLong RX11 486 (3)) (List.mem_cons_of_mem _ (List.mem_append_left _ (List.mem_of_getElem? (i := 0) rfl)))) dX11_image_3 ?_
  refine vp_callSi (W.runS (As := [.long a.toInt64, .long 0, .long 3]) (rest := []) ⟨hx, hb, hml, hown, hts⟩ (m_in l G k sa a.toInt64 0 3) (va_cwS 3 hts g_m_image_130_m_in rfl rfl rfl (by decide +kernel) ⟨(Nat.le_of_ble_eq_true rfl), (Nat.le_of_ble_eq_true rfl)⟩) ⟨gR.bl, (gR.pre (wc := []) hE hP [] rfl)⟩ rfl rfl hl.1 rfl (lv_room (Nat.le_of_ble_eq_true rfl)) dX11_image_6 ⟨(Nat.le_of_ble_eq_true rfl), (Nat.le_of_ble_eq_true rfl)⟩) (fun r_1 hr_1 => ?_)
  rcases hr_1 with ⟨rfl, c_2⟩ | ⟨rfl, c_2⟩
  · refine lv_if_ne (tgt := 14) hx hb dX11_image_9 (by decide) (fun _ => ?_) (fun h9 => absurd h9 (by decide))
    rcases gz_inL3 c_2 with rfl | rfl | rfl | rfl
    · refine lv_aload_n hx hb dX11_image_14 rfl (lv_at hl 0 rfl) ?_
      refine va_get (D := G) (ci := 11) (v := .ref (v 43)) (C := RX11) (T := TX11) (N := 44) hx hb hts j_m_image_11 hown hE.K hP 0 rfl rfl 43 (by decide) (hts (.fieldLink RX11 89 "GossamerGateModel" "isMade" "[Z") (List.mem_cons_of_mem _ (List.mem_append_left _ (List.mem_of_getElem? (i := 4) rfl)))) (fun _ h9 => h9) rfl dX11_image_15 ?_
      refine lv_iload_n hx hb dX11_image_18 rfl (lv_at hl 1 rfl) ?_
      refine lv_iconst (v := 1) hx hb dX11_image_19 (by decide) ?_
      refine va_zast hx hb hE.K hP hD hS 5 2 rfl rfl (gz_in (by decide)) dX11_image_20 (fun H locs hP hD hS => ?_)
      have hP : va_P G vwCl [(h0, .inr (11, [.ref (v 0), .int 0, .int 0, .ref (v 3), .ref (v 4), .ref (v 5), .ref (v 6), .ref (v 7), .int 0, .int 0, .int 0, .int 0, .int 0, .int 0, .int 0, .ref (v 15), .int 0, .ref (v 17), .int 0, .ref (v 19), .ref (v 20), .int (-1), .int 0, .ref (v 23), .int (-1), .int (-1), .int (-1), .int 0, .int (-1), .int 0, .ref (v 30), .int 0, .ref (v 32), .int 0, .int 0, .ref (v 35), .ref (v 36), .ref (v 37), .ref (v 38), .long 0, .ref (v 40), .ref (v 41), .ref (v 42), .ref (v 43)])), (v 20, .inl (k 0, 206, .inl (fun _ => 0))), (v 40, .inl (k 0, 824, .inl (fun _ => 0))), (v 41, .inl (k 0, 4, .inl (fun _ => 0))), (v 42, .inl (k 0, 4, .inl (fun _ => 0))), (v 43, .inl (k 2, 4, .inl (upd (fun _ => 0) 0 (vp_nar .boolean 1))))] H := hP
      have hD : va_D A [(h0, .inr (11, [.ref (v 0), .int 0, .int 0, .ref (v 3), .ref (v 4), .ref (v 5), .ref (v 6), .ref (v 7), .int 0, .int 0, .int 0, .int 0, .int 0, .int 0, .int 0, .ref (v 15), .int 0, .ref (v 17), .int 0, .ref (v 19), .ref (v 20), .int (-1), .int 0, .ref (v 23), .int (-1), .int (-1), .int (-1), .int 0, .int (-1), .int 0, .ref (v 30), .int 0, .ref (v 32), .int 0, .int 0, .ref (v 35), .ref (v 36), .ref (v 37), .ref (v 38), .long 0, .ref (v 40), .ref (v 41), .ref (v 42), .ref (v 43)])), (v 20, .inl (k 0, 206, .inl (fun _ => 0))), (v 40, .inl (k 0, 824, .inl (fun _ => 0))), (v 41, .inl (k 0, 4, .inl (fun _ => 0))), (v 42, .inl (k 0, 4, .inl (fun _ => 0))), (v 43, .inl (k 2, 4, .inl (upd (fun _ => 0) 0 (vp_nar .boolean 1))))] := hD
      refine lv_aload_n hx hb dX11_image_21 rfl (lv_at hl 0 rfl) ?_
      refine va_get (D := G) (ci := 11) (v := .ref (v 41)) (C := RX11) (T := TX11) (N := 44) hx hb hts j_m_image_11 hown hE.K hP 0 rfl rfl 41 (by decide) (hts (.fieldLink RX11 83 "GossamerGateModel" "imageForce" "[I") (List.mem_cons_of_mem _ (List.mem_append_left _ (List.mem_of_getElem? (i := 5) rfl)))) (fun _ h9 => h9) rfl dX11_image_22 ?_
      refine lv_iload_n hx hb dX11_image_25 rfl (lv_at hl 1 rfl) ?_
      refine lv_aload_n hx hb dX11_image_26 rfl (lv_at hl 0 rfl) ?_
      refine va_get (D := G) (ci := 11) (v := .int (-1)) (C := RX11) (T := TX11) (N := 44) hx hb hts j_m_image_11 hown hE.K hP 0 rfl rfl 21 (by decide) (hts (.fieldLink RX11 42 "GossamerGateModel" "force" "I") (List.mem_cons_of_mem _ (List.mem_append_left _ (List.mem_of_getElem? (i := 6) rfl)))) (fun _ h9 => h9) rfl dX11_image_27 ?_
      refine va_iast hx hb hE.K hP hD hS 3 0 rfl rfl (gz_in (by decide)) dX11_image_30 (fun H locs hP hD hS => ?_)
      have hP : va_P G vwCl [(h0, .inr (11, [.ref (v 0), .int 0, .int 0, .ref (v 3), .ref (v 4), .ref (v 5), .ref (v 6), .ref (v 7), .int 0, .int 0, .int 0, .int 0, .int 0, .int 0, .int 0, .ref (v 15), .int 0, .ref (v 17), .int 0, .ref (v 19), .ref (v 20), .int (-1), .int 0, .ref (v 23), .int (-1), .int (-1), .int (-1), .int 0, .int (-1), .int 0, .ref (v 30), .int 0, .ref (v 32), .int 0, .int 0, .ref (v 35), .ref (v 36), .ref (v 37), .ref (v 38), .long 0, .ref (v 40), .ref (v 41), .ref (v 42), .ref (v 43)])), (v 20, .inl (k 0, 206, .inl (fun _ => 0))), (v 40, .inl (k 0, 824, .inl (fun _ => 0))), (v 41, .inl (k 0, 4, .inl (upd (fun _ => 0) 0 (-1)))), (v 42, .inl (k 0, 4, .inl (fun _ => 0))), (v 43, .inl (k 2, 4, .inl (upd (fun _ => 0) 0 (vp_nar .boolean 1))))] H := hP
      have hD : va_D A [(h0, .inr (11, [.ref (v 0), .int 0, .int 0, .ref (v 3), .ref (v 4), .ref (v 5), .ref (v 6), .ref (v 7), .int 0, .int 0, .int 0, .int 0, .int 0, .int 0, .int 0, .ref (v 15), .int 0, .ref (v 17), .int 0, .ref (v 19), .ref (v 20), .int (-1), .int 0, .ref (v 23), .int (-1), .int (-1), .int (-1), .int 0, .int (-1), .int 0, .ref (v 30), .int 0, .ref (v 32), .int 0, .int 0, .ref (v 35), .ref (v 36), .ref (v 37), .ref (v 38), .long 0, .ref (v 40), .ref (v 41), .ref (v 42), .ref (v 43)])), (v 20, .inl (k 0, 206, .inl (fun _ => 0))), (v 40, .inl (k 0, 824, .inl (fun _ => 0))), (v 41, .inl (k 0, 4, .inl (upd (fun _ => 0) 0 (-1)))), (v 42, .inl (k 0, 4, .inl (fun _ => 0))), (v 43, .inl (k 2, 4, .inl (upd (fun _ => 0) 0 (vp_nar .boolean 1))))] := hD
      refine lv_aload_n hx hb dX11_image_31 rfl (lv_at hl 0 rfl) ?_
      refine va_get (D := G) (ci := 11) (v := .ref (v 42)) (C := RX11) (T := TX11) (N := 44) hx hb hts j_m_image_11 hown hE.K hP 0 rfl rfl 42 (by decide) (hts (.fieldLink RX11 86 "GossamerGateModel" "imageX" "[I") (List.mem_cons_of_mem _ (List.mem_append_left _ (List.mem_of_getElem? (i := 7) rfl)))) (fun _ h9 => h9) rfl dX11_image_32 ?_
      refine lv_iload_n hx hb dX11_image_35 rfl (lv_at hl 1 rfl) ?_
      refine lv_aload_n hx hb dX11_image_36 rfl (lv_at hl 0 rfl) ?_
      refine va_get (D := G) (ci := 11) (v := .int 0) (C := RX11) (T := TX11) (N := 44) hx hb hts j_m_image_11 hown hE.K hP 0 rfl rfl 22 (by decide) (hts (.fieldLink RX11 463 "GossamerGateModel" "x" "I") (List.mem_cons_of_mem _ (List.mem_append_left _ (List.mem_of_getElem? (i := 8) rfl)))) (fun _ h9 => h9) rfl dX11_image_37 ?_
      refine va_iast hx hb hE.K hP hD hS 4 0 rfl rfl (gz_in (by decide)) dX11_image_40 (fun H locs hP hD hS => ?_)
      have hP : va_P G vwCl [(h0, .inr (11, [.ref (v 0), .int 0, .int 0, .ref (v 3), .ref (v 4), .ref (v 5), .ref (v 6), .ref (v 7), .int 0, .int 0, .int 0, .int 0, .int 0, .int 0, .int 0, .ref (v 15), .int 0, .ref (v 17), .int 0, .ref (v 19), .ref (v 20), .int (-1), .int 0, .ref (v 23), .int (-1), .int (-1), .int (-1), .int 0, .int (-1), .int 0, .ref (v 30), .int 0, .ref (v 32), .int 0, .int 0, .ref (v 35), .ref (v 36), .ref (v 37), .ref (v 38), .long 0, .ref (v 40), .ref (v 41), .ref (v 42), .ref (v 43)])), (v 20, .inl (k 0, 206, .inl (fun _ => 0))), (v 40, .inl (k 0, 824, .inl (fun _ => 0))), (v 41, .inl (k 0, 4, .inl (upd (fun _ => 0) 0 (-1)))), (v 42, .inl (k 0, 4, .inl (upd (fun _ => 0) 0 0))), (v 43, .inl (k 2, 4, .inl (upd (fun _ => 0) 0 (vp_nar .boolean 1))))] H := hP
      have hD : va_D A [(h0, .inr (11, [.ref (v 0), .int 0, .int 0, .ref (v 3), .ref (v 4), .ref (v 5), .ref (v 6), .ref (v 7), .int 0, .int 0, .int 0, .int 0, .int 0, .int 0, .int 0, .ref (v 15), .int 0, .ref (v 17), .int 0, .ref (v 19), .ref (v 20), .int (-1), .int 0, .ref (v 23), .int (-1), .int (-1), .int (-1), .int 0, .int (-1), .int 0, .ref (v 30), .int 0, .ref (v 32), .int 0, .int 0, .ref (v 35), .ref (v 36), .ref (v 37), .ref (v 38), .long 0, .ref (v 40), .ref (v 41), .ref (v 42), .ref (v 43)])), (v 20, .inl (k 0, 206, .inl (fun _ => 0))), (v 40, .inl (k 0, 824, .inl (fun _ => 0))), (v 41, .inl (k 0, 4, .inl (upd (fun _ => 0) 0 (-1)))), (v 42, .inl (k 0, 4, .inl (upd (fun _ => 0) 0 0))), (v 43, .inl (k 2, 4, .inl (upd (fun _ => 0) 0 (vp_nar .boolean 1))))] := hD
      refine lv_iconst (v := 0) hx hb dX11_image_41 (by decide) ?_
      refine lv_istore_n (lv' := [(2, .int 0), (0, .ref h0), (1, .int 0)]) hx hb dX11_image_42 rfl hl (by decide) rfl (fun ls hl => ?_)
      have hL_43 : ∀ (n : Nat) (j : Nat) (f : Nat → Int32) (ls : Array Slot) (H : Heap) (locs : List Loc), (j ≤ 206) → (206 - j) < n → va_P G vwCl [(h0, .inr (11, [.ref (v 0), .int 0, .int 0, .ref (v 3), .ref (v 4), .ref (v 5), .ref (v 6), .ref (v 7), .int 0, .int 0, .int 0, .int 0, .int 0, .int 0, .int 0, .ref (v 15), .int 0, .ref (v 17), .int 0, .ref (v 19), .ref (v 20), .int (-1), .int 0, .ref (v 23), .int (-1), .int (-1), .int (-1), .int 0, .int (-1), .int 0, .ref (v 30), .int 0, .ref (v 32), .int 0, .int 0, .ref (v 35), .ref (v 36), .ref (v 37), .ref (v 38), .long 0, .ref (v 40), .ref (v 41), .ref (v 42), .ref (v 43)])), (v 20, .inl (k 0, 206, .inl (fun _ => 0))), (v 40, .inl (k 0, 824, .inl f)), (v 41, .inl (k 0, 4, .inl (upd (fun _ => 0) 0 (-1)))), (v 42, .inl (k 0, 4, .inl (upd (fun _ => 0) 0 0))), (v 43, .inl (k 2, 4, .inl (upd (fun _ => 0) 0 (vp_nar .boolean 1))))] H → va_D A [(h0, .inr (11, [.ref (v 0), .int 0, .int 0, .ref (v 3), .ref (v 4), .ref (v 5), .ref (v 6), .ref (v 7), .int 0, .int 0, .int 0, .int 0, .int 0, .int 0, .int 0, .ref (v 15), .int 0, .ref (v 17), .int 0, .ref (v 19), .ref (v 20), .int (-1), .int 0, .ref (v 23), .int (-1), .int (-1), .int (-1), .int 0, .int (-1), .int 0, .ref (v 30), .int 0, .ref (v 32), .int 0, .int 0, .ref (v 35), .ref (v 36), .ref (v 37), .ref (v 38), .long 0, .ref (v 40), .ref (v 41), .ref (v 42), .ref (v 43)])), (v 20, .inl (k 0, 206, .inl (fun _ => 0))), (v 40, .inl (k 0, 824, .inl f)), (v 41, .inl (k 0, 4, .inl (upd (fun _ => 0) 0 (-1)))), (v 42, .inl (k 0, 4, .inl (upd (fun _ => 0) 0 0))), (v 43, .inl (k 2, 4, .inl (upd (fun _ => 0) 0 (vp_nar .boolean 1))))] → va_S A s_.heap H locs → lv_has ls 3 [(0, .ref h0), (1, .int 0), (2, .int (nI j))] → W p_ l e_ (headSpec vs_m_image ({ frames := 1, cells := 0, slots := 0, locals := 25 } : Room)).room s_ m [.ref h0, .int (0 : Int32)].toArray below_ meth_ c_ H locs 0 0 (MQ below_ (va_Qi (fun r (_ : Nat → Nat) => (r = 0 ∧ ((0 : Int64) ≤ (0 : Int32).toInt64 ∧ (0 : Int32).toInt64 ≤ 3)) ∨ (r = (-1) ∧ (¬ ((0 : Int64) ≤ (0 : Int32).toInt64 ∧ (0 : Int32).toInt64 ≤ 3)))) (gO G A (fun _ => [])) A) [.ref h0, .int (0 : Int32)].toArray s_ 0 0 A) (F0 m 43 ls []) := by
        intro n
        induction n with
        | zero => intro j f ls H locs hj hm hP hD hS hl; exact absurd hm (Nat.not_lt_zero _)
        | succ n ih =>
          intro j f ls H locs hj hm hP hD hS hl
          refine lv_iload_n hx hb dX11_image_43 rfl (lv_at hl 2 rfl) ?_
          refine lv_sipush (v := 206) hx hb dX11_image_44 (by decide) ?_
          refine lv_icmp_ge (tgt := 74) hx hb dX11_image_47 (by decide) (fun c_3 => ?_) (fun c_3 => ?_)
          · have h_4 : 206 ≤ j := (nI_leI (a := 206) (b := j) (by decide) (by omega)).mp c_3
            refine lv_aload_n hx hb dX11_image_74 rfl (lv_at hl 0 rfl) ?_
            refine va_get (D := G) (ci := 11) (v := .ref (v 20)) (C := RX11) (T := TX11) (N := 44) hx hb hts j_m_image_11 hown hE.K hP 0 rfl rfl 20 (by decide) (hts (.fieldLink RX11 39 "GossamerGateModel" "said" "[I") (List.mem_cons_of_mem _ (List.mem_append_left _ (List.mem_of_getElem? (i := 9) rfl)))) (fun _ h9 => h9) rfl dX11_image_75 ?_
            refine lv_bipush (v := 10) hx hb dX11_image_78 (by decide) ?_
            refine va_iald hx hb hE.K hP 1 0 rfl rfl (gz_in (by decide)) dX11_image_80 ?_
            refine gz_ni (v := 0) rfl ?_
            have hP9 := hP.sub (ws' := []) [] rfl
            have hD9 := hD.sub (ws' := []) [] (by decide) rfl
            exact W.iret (v := 0) hx hb hr (fun t ht hW => ⟨⟨0, (fun _ => 0), rfl, (Or.inl ⟨rfl, by decide⟩), by rw [ht]; exact hP9, hD9⟩, hS.F ht⟩) hS.2.2 dX11_image_81
          · have h_5 : j < 206 := Nat.lt_of_not_le (fun q => c_3 ((nI_leI (a := 206) (b := j) (by decide) (by omega)).mpr q))
            refine lv_aload_n hx hb dX11_image_50 rfl (lv_at hl 0 rfl) ?_
            refine va_get (D := G) (ci := 11) (v := .ref (v 40)) (C := RX11) (T := TX11) (N := 44) hx hb hts j_m_image_11 hown hE.K hP 0 rfl rfl 40 (by decide) (hts (.fieldLink RX11 80 "GossamerGateModel" "images" "[I") (List.mem_cons_of_mem _ (List.mem_append_left _ (List.mem_of_getElem? (i := 10) rfl)))) (fun _ h9 => h9) rfl dX11_image_51 ?_
            refine lv_sipush (v := 206) hx hb dX11_image_54 (by decide) ?_
            refine lv_iload_n hx hb dX11_image_57 rfl (lv_at hl 1 rfl) ?_
            refine lv_imul hx hb dX11_image_58 ?_
            refine gz_ni (v := 0) (by decide) ?_
            refine lv_iload_n hx hb dX11_image_59 rfl (lv_at hl 2 rfl) ?_
            refine lv_iadd hx hb dX11_image_60 ?_
            refine gz_ni (v := nI (0 + j)) (nI_add 0 j) ?_
            refine lv_aload_n hx hb dX11_image_61 rfl (lv_at hl 0 rfl) ?_
            refine va_get (D := G) (ci := 11) (v := .ref (v 20)) (C := RX11) (T := TX11) (N := 44) hx hb hts j_m_image_11 hown hE.K hP 0 rfl rfl 20 (by decide) (hts (.fieldLink RX11 39 "GossamerGateModel" "said" "[I") (List.mem_cons_of_mem _ (List.mem_append_left _ (List.mem_of_getElem? (i := 9) rfl)))) (fun _ h9 => h9) rfl dX11_image_62 ?_
            refine lv_iload_n hx hb dX11_image_65 rfl (lv_at hl 2 rfl) ?_
            refine va_iald hx hb hE.K hP 1 0 rfl rfl (vp_in_nI (by omega) (by decide)) dX11_image_66 ?_
            refine gz_ni (v := 0) rfl ?_
            refine va_iast hx hb hE.K hP hD hS 2 0 rfl rfl (vp_in_nI (by omega) (by decide)) dX11_image_67 (fun H locs hP hD hS => ?_)
            have hP : va_P G vwCl [(h0, .inr (11, [.ref (v 0), .int 0, .int 0, .ref (v 3), .ref (v 4), .ref (v 5), .ref (v 6), .ref (v 7), .int 0, .int 0, .int 0, .int 0, .int 0, .int 0, .int 0, .ref (v 15), .int 0, .ref (v 17), .int 0, .ref (v 19), .ref (v 20), .int (-1), .int 0, .ref (v 23), .int (-1), .int (-1), .int (-1), .int 0, .int (-1), .int 0, .ref (v 30), .int 0, .ref (v 32), .int 0, .int 0, .ref (v 35), .ref (v 36), .ref (v 37), .ref (v 38), .long 0, .ref (v 40), .ref (v 41), .ref (v 42), .ref (v 43)])), (v 20, .inl (k 0, 206, .inl (fun _ => 0))), (v 40, .inl (k 0, 824, .inl (upd f (Int32.toNatClampNeg (nI (0 + j))) 0))), (v 41, .inl (k 0, 4, .inl (upd (fun _ => 0) 0 (-1)))), (v 42, .inl (k 0, 4, .inl (upd (fun _ => 0) 0 0))), (v 43, .inl (k 2, 4, .inl (upd (fun _ => 0) 0 (vp_nar .boolean 1))))] H := hP
            have hD : va_D A [(h0, .inr (11, [.ref (v 0), .int 0, .int 0, .ref (v 3), .ref (v 4), .ref (v 5), .ref (v 6), .ref (v 7), .int 0, .int 0, .int 0, .int 0, .int 0, .int 0, .int 0, .ref (v 15), .int 0, .ref (v 17), .int 0, .ref (v 19), .ref (v 20), .int (-1), .int 0, .ref (v 23), .int (-1), .int (-1), .int (-1), .int 0, .int (-1), .int 0, .ref (v 30), .int 0, .ref (v 32), .int 0, .int 0, .ref (v 35), .ref (v 36), .ref (v 37), .ref (v 38), .long 0, .ref (v 40), .ref (v 41), .ref (v 42), .ref (v 43)])), (v 20, .inl (k 0, 206, .inl (fun _ => 0))), (v 40, .inl (k 0, 824, .inl (upd f (Int32.toNatClampNeg (nI (0 + j))) 0))), (v 41, .inl (k 0, 4, .inl (upd (fun _ => 0) 0 (-1)))), (v 42, .inl (k 0, 4, .inl (upd (fun _ => 0) 0 0))), (v 43, .inl (k 2, 4, .inl (upd (fun _ => 0) 0 (vp_nar .boolean 1))))] := hD
            refine lv_iinc (v := (nI (j + 1))) (lv' := [(2, .int (nI (j + 1))), (0, .ref h0), (1, .int 0)]) hx hb dX11_image_68 hl (k := 2) rfl (nI_1 _) (by decide) rfl (fun ls hl => ?_)
            refine lv_goto (tgt := 43) hx hb dX11_image_71 (by decide) ?_
            exact ih (j + 1) (upd f (Int32.toNatClampNeg (nI (0 + j))) 0) ls H locs (by omega) (by omega) hP hD hS (lv_sub hl [1, 2, 0] rfl)
      exact hL_43 _ 0 (fun _ => 0) ls H locs (by omega) (Nat.lt_succ_self _) hP hD hS (lv_sub hl [1, 2, 0] rfl)
    · refine lv_aload_n hx hb dX11_image_14 rfl (lv_at hl 0 rfl) ?_
      refine va_get (D := G) (ci := 11) (v := .ref (v 43)) (C := RX11) (T := TX11) (N := 44) hx hb hts j_m_image_11 hown hE.K hP 0 rfl rfl 43 (by decide) (hts (.fieldLink RX11 89 "GossamerGateModel" "isMade" "[Z") (List.mem_cons_of_mem _ (List.mem_append_left _ (List.mem_of_getElem? (i := 4) rfl)))) (fun _ h9 => h9) rfl dX11_image_15 ?_
      refine lv_iload_n hx hb dX11_image_18 rfl (lv_at hl 1 rfl) ?_
      refine lv_iconst (v := 1) hx hb dX11_image_19 (by decide) ?_
      refine va_zast hx hb hE.K hP hD hS 5 2 rfl rfl (gz_in (by decide)) dX11_image_20 (fun H locs hP hD hS => ?_)
      have hP : va_P G vwCl [(h0, .inr (11, [.ref (v 0), .int 0, .int 0, .ref (v 3), .ref (v 4), .ref (v 5), .ref (v 6), .ref (v 7), .int 0, .int 0, .int 0, .int 0, .int 0, .int 0, .int 0, .ref (v 15), .int 0, .ref (v 17), .int 0, .ref (v 19), .ref (v 20), .int (-1), .int 0, .ref (v 23), .int (-1), .int (-1), .int (-1), .int 0, .int (-1), .int 0, .ref (v 30), .int 0, .ref (v 32), .int 0, .int 0, .ref (v 35), .ref (v 36), .ref (v 37), .ref (v 38), .long 0, .ref (v 40), .ref (v 41), .ref (v 42), .ref (v 43)])), (v 20, .inl (k 0, 206, .inl (fun _ => 0))), (v 40, .inl (k 0, 824, .inl (fun _ => 0))), (v 41, .inl (k 0, 4, .inl (fun _ => 0))), (v 42, .inl (k 0, 4, .inl (fun _ => 0))), (v 43, .inl (k 2, 4, .inl (upd (fun _ => 0) 1 (vp_nar .boolean 1))))] H := hP
      have hD : va_D A [(h0, .inr (11, [.ref (v 0), .int 0, .int 0, .ref (v 3), .ref (v 4), .ref (v 5), .ref (v 6), .ref (v 7), .int 0, .int 0, .int 0, .int 0, .int 0, .int 0, .int 0, .ref (v 15), .int 0, .ref (v 17), .int 0, .ref (v 19), .ref (v 20), .int (-1), .int 0, .ref (v 23), .int (-1), .int (-1), .int (-1), .int 0, .int (-1), .int 0, .ref (v 30), .int 0, .ref (v 32), .int 0, .int 0, .ref (v 35), .ref (v 36), .ref (v 37), .ref (v 38), .long 0, .ref (v 40), .ref (v 41), .ref (v 42), .ref (v 43)])), (v 20, .inl (k 0, 206, .inl (fun _ => 0))), (v 40, .inl (k 0, 824, .inl (fun _ => 0))), (v 41, .inl (k 0, 4, .inl (fun _ => 0))), (v 42, .inl (k 0, 4, .inl (fun _ => 0))), (v 43, .inl (k 2, 4, .inl (upd (fun _ => 0) 1 (vp_nar .boolean 1))))] := hD
      refine lv_aload_n hx hb dX11_image_21 rfl (lv_at hl 0 rfl) ?_
      refine va_get (D := G) (ci := 11) (v := .ref (v 41)) (C := RX11) (T := TX11) (N := 44) hx hb hts j_m_image_11 hown hE.K hP 0 rfl rfl 41 (by decide) (hts (.fieldLink RX11 83 "GossamerGateModel" "imageForce" "[I") (List.mem_cons_of_mem _ (List.mem_append_left _ (List.mem_of_getElem? (i := 5) rfl)))) (fun _ h9 => h9) rfl dX11_image_22 ?_
      refine lv_iload_n hx hb dX11_image_25 rfl (lv_at hl 1 rfl) ?_
      refine lv_aload_n hx hb dX11_image_26 rfl (lv_at hl 0 rfl) ?_
      refine va_get (D := G) (ci := 11) (v := .int (-1)) (C := RX11) (T := TX11) (N := 44) hx hb hts j_m_image_11 hown hE.K hP 0 rfl rfl 21 (by decide) (hts (.fieldLink RX11 42 "GossamerGateModel" "force" "I") (List.mem_cons_of_mem _ (List.mem_append_left _ (List.mem_of_getElem? (i := 6) rfl)))) (fun _ h9 => h9) rfl dX11_image_27 ?_
      refine va_iast hx hb hE.K hP hD hS 3 0 rfl rfl (gz_in (by decide)) dX11_image_30 (fun H locs hP hD hS => ?_)
      have hP : va_P G vwCl [(h0, .inr (11, [.ref (v 0), .int 0, .int 0, .ref (v 3), .ref (v 4), .ref (v 5), .ref (v 6), .ref (v 7), .int 0, .int 0, .int 0, .int 0, .int 0, .int 0, .int 0, .ref (v 15), .int 0, .ref (v 17), .int 0, .ref (v 19), .ref (v 20), .int (-1), .int 0, .ref (v 23), .int (-1), .int (-1), .int (-1), .int 0, .int (-1), .int 0, .ref (v 30), .int 0, .ref (v 32), .int 0, .int 0, .ref (v 35), .ref (v 36), .ref (v 37), .ref (v 38), .long 0, .ref (v 40), .ref (v 41), .ref (v 42), .ref (v 43)])), (v 20, .inl (k 0, 206, .inl (fun _ => 0))), (v 40, .inl (k 0, 824, .inl (fun _ => 0))), (v 41, .inl (k 0, 4, .inl (upd (fun _ => 0) 1 (-1)))), (v 42, .inl (k 0, 4, .inl (fun _ => 0))), (v 43, .inl (k 2, 4, .inl (upd (fun _ => 0) 1 (vp_nar .boolean 1))))] H := hP
      have hD : va_D A [(h0, .inr (11, [.ref (v 0), .int 0, .int 0, .ref (v 3), .ref (v 4), .ref (v 5), .ref (v 6), .ref (v 7), .int 0, .int 0, .int 0, .int 0, .int 0, .int 0, .int 0, .ref (v 15), .int 0, .ref (v 17), .int 0, .ref (v 19), .ref (v 20), .int (-1), .int 0, .ref (v 23), .int (-1), .int (-1), .int (-1), .int 0, .int (-1), .int 0, .ref (v 30), .int 0, .ref (v 32), .int 0, .int 0, .ref (v 35), .ref (v 36), .ref (v 37), .ref (v 38), .long 0, .ref (v 40), .ref (v 41), .ref (v 42), .ref (v 43)])), (v 20, .inl (k 0, 206, .inl (fun _ => 0))), (v 40, .inl (k 0, 824, .inl (fun _ => 0))), (v 41, .inl (k 0, 4, .inl (upd (fun _ => 0) 1 (-1)))), (v 42, .inl (k 0, 4, .inl (fun _ => 0))), (v 43, .inl (k 2, 4, .inl (upd (fun _ => 0) 1 (vp_nar .boolean 1))))] := hD
      refine lv_aload_n hx hb dX11_image_31 rfl (lv_at hl 0 rfl) ?_
      refine va_get (D := G) (ci := 11) (v := .ref (v 42)) (C := RX11) (T := TX11) (N := 44) hx hb hts j_m_image_11 hown hE.K hP 0 rfl rfl 42 (by decide) (hts (.fieldLink RX11 86 "GossamerGateModel" "imageX" "[I") (List.mem_cons_of_mem _ (List.mem_append_left _ (List.mem_of_getElem? (i := 7) rfl)))) (fun _ h9 => h9) rfl dX11_image_32 ?_
      refine lv_iload_n hx hb dX11_image_35 rfl (lv_at hl 1 rfl) ?_
      refine lv_aload_n hx hb dX11_image_36 rfl (lv_at hl 0 rfl) ?_
      refine va_get (D := G) (ci := 11) (v := .int 0) (C := RX11) (T := TX11) (N := 44) hx hb hts j_m_image_11 hown hE.K hP 0 rfl rfl 22 (by decide) (hts (.fieldLink RX11 463 "GossamerGateModel" "x" "I") (List.mem_cons_of_mem _ (List.mem_append_left _ (List.mem_of_getElem? (i := 8) rfl)))) (fun _ h9 => h9) rfl dX11_image_37 ?_
      refine va_iast hx hb hE.K hP hD hS 4 0 rfl rfl (gz_in (by decide)) dX11_image_40 (fun H locs hP hD hS => ?_)
      have hP : va_P G vwCl [(h0, .inr (11, [.ref (v 0), .int 0, .int 0, .ref (v 3), .ref (v 4), .ref (v 5), .ref (v 6), .ref (v 7), .int 0, .int 0, .int 0, .int 0, .int 0, .int 0, .int 0, .ref (v 15), .int 0, .ref (v 17), .int 0, .ref (v 19), .ref (v 20), .int (-1), .int 0, .ref (v 23), .int (-1), .int (-1), .int (-1), .int 0, .int (-1), .int 0, .ref (v 30), .int 0, .ref (v 32), .int 0, .int 0, .ref (v 35), .ref (v 36), .ref (v 37), .ref (v 38), .long 0, .ref (v 40), .ref (v 41), .ref (v 42), .ref (v 43)])), (v 20, .inl (k 0, 206, .inl (fun _ => 0))), (v 40, .inl (k 0, 824, .inl (fun _ => 0))), (v 41, .inl (k 0, 4, .inl (upd (fun _ => 0) 1 (-1)))), (v 42, .inl (k 0, 4, .inl (upd (fun _ => 0) 1 0))), (v 43, .inl (k 2, 4, .inl (upd (fun _ => 0) 1 (vp_nar .boolean 1))))] H := hP
      have hD : va_D A [(h0, .inr (11, [.ref (v 0), .int 0, .int 0, .ref (v 3), .ref (v 4), .ref (v 5), .ref (v 6), .ref (v 7), .int 0, .int 0, .int 0, .int 0, .int 0, .int 0, .int 0, .ref (v 15), .int 0, .ref (v 17), .int 0, .ref (v 19), .ref (v 20), .int (-1), .int 0, .ref (v 23), .int (-1), .int (-1), .int (-1), .int 0, .int (-1), .int 0, .ref (v 30), .int 0, .ref (v 32), .int 0, .int 0, .ref (v 35), .ref (v 36), .ref (v 37), .ref (v 38), .long 0, .ref (v 40), .ref (v 41), .ref (v 42), .ref (v 43)])), (v 20, .inl (k 0, 206, .inl (fun _ => 0))), (v 40, .inl (k 0, 824, .inl (fun _ => 0))), (v 41, .inl (k 0, 4, .inl (upd (fun _ => 0) 1 (-1)))), (v 42, .inl (k 0, 4, .inl (upd (fun _ => 0) 1 0))), (v 43, .inl (k 2, 4, .inl (upd (fun _ => 0) 1 (vp_nar .boolean 1))))] := hD
      refine lv_iconst (v := 0) hx hb dX11_image_41 (by decide) ?_
      refine lv_istore_n (lv' := [(2, .int 0), (0, .ref h0), (1, .int 1)]) hx hb dX11_image_42 rfl hl (by decide) rfl (fun ls hl => ?_)
      have hL_43 : ∀ (n : Nat) (j : Nat) (f : Nat → Int32) (ls : Array Slot) (H : Heap) (locs : List Loc), (j ≤ 206) → (206 - j) < n → va_P G vwCl [(h0, .inr (11, [.ref (v 0), .int 0, .int 0, .ref (v 3), .ref (v 4), .ref (v 5), .ref (v 6), .ref (v 7), .int 0, .int 0, .int 0, .int 0, .int 0, .int 0, .int 0, .ref (v 15), .int 0, .ref (v 17), .int 0, .ref (v 19), .ref (v 20), .int (-1), .int 0, .ref (v 23), .int (-1), .int (-1), .int (-1), .int 0, .int (-1), .int 0, .ref (v 30), .int 0, .ref (v 32), .int 0, .int 0, .ref (v 35), .ref (v 36), .ref (v 37), .ref (v 38), .long 0, .ref (v 40), .ref (v 41), .ref (v 42), .ref (v 43)])), (v 20, .inl (k 0, 206, .inl (fun _ => 0))), (v 40, .inl (k 0, 824, .inl f)), (v 41, .inl (k 0, 4, .inl (upd (fun _ => 0) 1 (-1)))), (v 42, .inl (k 0, 4, .inl (upd (fun _ => 0) 1 0))), (v 43, .inl (k 2, 4, .inl (upd (fun _ => 0) 1 (vp_nar .boolean 1))))] H → va_D A [(h0, .inr (11, [.ref (v 0), .int 0, .int 0, .ref (v 3), .ref (v 4), .ref (v 5), .ref (v 6), .ref (v 7), .int 0, .int 0, .int 0, .int 0, .int 0, .int 0, .int 0, .ref (v 15), .int 0, .ref (v 17), .int 0, .ref (v 19), .ref (v 20), .int (-1), .int 0, .ref (v 23), .int (-1), .int (-1), .int (-1), .int 0, .int (-1), .int 0, .ref (v 30), .int 0, .ref (v 32), .int 0, .int 0, .ref (v 35), .ref (v 36), .ref (v 37), .ref (v 38), .long 0, .ref (v 40), .ref (v 41), .ref (v 42), .ref (v 43)])), (v 20, .inl (k 0, 206, .inl (fun _ => 0))), (v 40, .inl (k 0, 824, .inl f)), (v 41, .inl (k 0, 4, .inl (upd (fun _ => 0) 1 (-1)))), (v 42, .inl (k 0, 4, .inl (upd (fun _ => 0) 1 0))), (v 43, .inl (k 2, 4, .inl (upd (fun _ => 0) 1 (vp_nar .boolean 1))))] → va_S A s_.heap H locs → lv_has ls 3 [(0, .ref h0), (1, .int 1), (2, .int (nI j))] → W p_ l e_ (headSpec vs_m_image ({ frames := 1, cells := 0, slots := 0, locals := 25 } : Room)).room s_ m [.ref h0, .int (1 : Int32)].toArray below_ meth_ c_ H locs 0 0 (MQ below_ (va_Qi (fun r (_ : Nat → Nat) => (r = 0 ∧ ((0 : Int64) ≤ (1 : Int32).toInt64 ∧ (1 : Int32).toInt64 ≤ 3)) ∨ (r = (-1) ∧ (¬ ((0 : Int64) ≤ (1 : Int32).toInt64 ∧ (1 : Int32).toInt64 ≤ 3)))) (gO G A (fun _ => [])) A) [.ref h0, .int (1 : Int32)].toArray s_ 0 0 A) (F0 m 43 ls []) := by
        intro n
        induction n with
        | zero => intro j f ls H locs hj hm hP hD hS hl; exact absurd hm (Nat.not_lt_zero _)
        | succ n ih =>
          intro j f ls H locs hj hm hP hD hS hl
          refine lv_iload_n hx hb dX11_image_43 rfl (lv_at hl 2 rfl) ?_
          refine lv_sipush (v := 206) hx hb dX11_image_44 (by decide) ?_
          refine lv_icmp_ge (tgt := 74) hx hb dX11_image_47 (by decide) (fun c_6 => ?_) (fun c_6 => ?_)
          · have h_7 : 206 ≤ j := (nI_leI (a := 206) (b := j) (by decide) (by omega)).mp c_6
            refine lv_aload_n hx hb dX11_image_74 rfl (lv_at hl 0 rfl) ?_
            refine va_get (D := G) (ci := 11) (v := .ref (v 20)) (C := RX11) (T := TX11) (N := 44) hx hb hts j_m_image_11 hown hE.K hP 0 rfl rfl 20 (by decide) (hts (.fieldLink RX11 39 "GossamerGateModel" "said" "[I") (List.mem_cons_of_mem _ (List.mem_append_left _ (List.mem_of_getElem? (i := 9) rfl)))) (fun _ h9 => h9) rfl dX11_image_75 ?_
            refine lv_bipush (v := 10) hx hb dX11_image_78 (by decide) ?_
            refine va_iald hx hb hE.K hP 1 0 rfl rfl (gz_in (by decide)) dX11_image_80 ?_
            refine gz_ni (v := 0) rfl ?_
            have hP9 := hP.sub (ws' := []) [] rfl
            have hD9 := hD.sub (ws' := []) [] (by decide) rfl
            exact W.iret (v := 0) hx hb hr (fun t ht hW => ⟨⟨0, (fun _ => 0), rfl, (Or.inl ⟨rfl, by decide⟩), by rw [ht]; exact hP9, hD9⟩, hS.F ht⟩) hS.2.2 dX11_image_81
          · have h_8 : j < 206 := Nat.lt_of_not_le (fun q => c_6 ((nI_leI (a := 206) (b := j) (by decide) (by omega)).mpr q))
            refine lv_aload_n hx hb dX11_image_50 rfl (lv_at hl 0 rfl) ?_
            refine va_get (D := G) (ci := 11) (v := .ref (v 40)) (C := RX11) (T := TX11) (N := 44) hx hb hts j_m_image_11 hown hE.K hP 0 rfl rfl 40 (by decide) (hts (.fieldLink RX11 80 "GossamerGateModel" "images" "[I") (List.mem_cons_of_mem _ (List.mem_append_left _ (List.mem_of_getElem? (i := 10) rfl)))) (fun _ h9 => h9) rfl dX11_image_51 ?_
            refine lv_sipush (v := 206) hx hb dX11_image_54 (by decide) ?_
            refine lv_iload_n hx hb dX11_image_57 rfl (lv_at hl 1 rfl) ?_
            refine lv_imul hx hb dX11_image_58 ?_
            refine gz_ni (v := 206) (by decide) ?_
            refine lv_iload_n hx hb dX11_image_59 rfl (lv_at hl 2 rfl) ?_
            refine lv_iadd hx hb dX11_image_60 ?_
            refine gz_ni (v := nI (206 + j)) (nI_add 206 j) ?_
            refine lv_aload_n hx hb dX11_image_61 rfl (lv_at hl 0 rfl) ?_
            refine va_get (D := G) (ci := 11) (v := .ref (v 20)) (C := RX11) (T := TX11) (N := 44) hx hb hts j_m_image_11 hown hE.K hP 0 rfl rfl 20 (by decide) (hts (.fieldLink RX11 39 "GossamerGateModel" "said" "[I") (List.mem_cons_of_mem _ (List.mem_append_left _ (List.mem_of_getElem? (i := 9) rfl)))) (fun _ h9 => h9) rfl dX11_image_62 ?_
            refine lv_iload_n hx hb dX11_image_65 rfl (lv_at hl 2 rfl) ?_
            refine va_iald hx hb hE.K hP 1 0 rfl rfl (vp_in_nI (by omega) (by decide)) dX11_image_66 ?_
            refine gz_ni (v := 0) rfl ?_
            refine va_iast hx hb hE.K hP hD hS 2 0 rfl rfl (vp_in_nI (by omega) (by decide)) dX11_image_67 (fun H locs hP hD hS => ?_)
            have hP : va_P G vwCl [(h0, .inr (11, [.ref (v 0), .int 0, .int 0, .ref (v 3), .ref (v 4), .ref (v 5), .ref (v 6), .ref (v 7), .int 0, .int 0, .int 0, .int 0, .int 0, .int 0, .int 0, .ref (v 15), .int 0, .ref (v 17), .int 0, .ref (v 19), .ref (v 20), .int (-1), .int 0, .ref (v 23), .int (-1), .int (-1), .int (-1), .int 0, .int (-1), .int 0, .ref (v 30), .int 0, .ref (v 32), .int 0, .int 0, .ref (v 35), .ref (v 36), .ref (v 37), .ref (v 38), .long 0, .ref (v 40), .ref (v 41), .ref (v 42), .ref (v 43)])), (v 20, .inl (k 0, 206, .inl (fun _ => 0))), (v 40, .inl (k 0, 824, .inl (upd f (Int32.toNatClampNeg (nI (206 + j))) 0))), (v 41, .inl (k 0, 4, .inl (upd (fun _ => 0) 1 (-1)))), (v 42, .inl (k 0, 4, .inl (upd (fun _ => 0) 1 0))), (v 43, .inl (k 2, 4, .inl (upd (fun _ => 0) 1 (vp_nar .boolean 1))))] H := hP
            have hD : va_D A [(h0, .inr (11, [.ref (v 0), .int 0, .int 0, .ref (v 3), .ref (v 4), .ref (v 5), .ref (v 6), .ref (v 7), .int 0, .int 0, .int 0, .int 0, .int 0, .int 0, .int 0, .ref (v 15), .int 0, .ref (v 17), .int 0, .ref (v 19), .ref (v 20), .int (-1), .int 0, .ref (v 23), .int (-1), .int (-1), .int (-1), .int 0, .int (-1), .int 0, .ref (v 30), .int 0, .ref (v 32), .int 0, .int 0, .ref (v 35), .ref (v 36), .ref (v 37), .ref (v 38), .long 0, .ref (v 40), .ref (v 41), .ref (v 42), .ref (v 43)])), (v 20, .inl (k 0, 206, .inl (fun _ => 0))), (v 40, .inl (k 0, 824, .inl (upd f (Int32.toNatClampNeg (nI (206 + j))) 0))), (v 41, .inl (k 0, 4, .inl (upd (fun _ => 0) 1 (-1)))), (v 42, .inl (k 0, 4, .inl (upd (fun _ => 0) 1 0))), (v 43, .inl (k 2, 4, .inl (upd (fun _ => 0) 1 (vp_nar .boolean 1))))] := hD
            refine lv_iinc (v := (nI (j + 1))) (lv' := [(2, .int (nI (j + 1))), (0, .ref h0), (1, .int 1)]) hx hb dX11_image_68 hl (k := 2) rfl (nI_1 _) (by decide) rfl (fun ls hl => ?_)
            refine lv_goto (tgt := 43) hx hb dX11_image_71 (by decide) ?_
            exact ih (j + 1) (upd f (Int32.toNatClampNeg (nI (206 + j))) 0) ls H locs (by omega) (by omega) hP hD hS (lv_sub hl [1, 2, 0] rfl)
      exact hL_43 _ 0 (fun _ => 0) ls H locs (by omega) (Nat.lt_succ_self _) hP hD hS (lv_sub hl [1, 2, 0] rfl)
    · refine lv_aload_n hx hb dX11_image_14 rfl (lv_at hl 0 rfl) ?_
      refine va_get (D := G) (ci := 11) (v := .ref (v 43)) (C := RX11) (T := TX11) (N := 44) hx hb hts j_m_image_11 hown hE.K hP 0 rfl rfl 43 (by decide) (hts (.fieldLink RX11 89 "GossamerGateModel" "isMade" "[Z") (List.mem_cons_of_mem _ (List.mem_append_left _ (List.mem_of_getElem? (i := 4) rfl)))) (fun _ h9 => h9) rfl dX11_image_15 ?_
      refine lv_iload_n hx hb dX11_image_18 rfl (lv_at hl 1 rfl) ?_
      refine lv_iconst (v := 1) hx hb dX11_image_19 (by decide) ?_
      refine va_zast hx hb hE.K hP hD hS 5 2 rfl rfl (gz_in (by decide)) dX11_image_20 (fun H locs hP hD hS => ?_)
      have hP : va_P G vwCl [(h0, .inr (11, [.ref (v 0), .int 0, .int 0, .ref (v 3), .ref (v 4), .ref (v 5), .ref (v 6), .ref (v 7), .int 0, .int 0, .int 0, .int 0, .int 0, .int 0, .int 0, .ref (v 15), .int 0, .ref (v 17), .int 0, .ref (v 19), .ref (v 20), .int (-1), .int 0, .ref (v 23), .int (-1), .int (-1), .int (-1), .int 0, .int (-1), .int 0, .ref (v 30), .int 0, .ref (v 32), .int 0, .int 0, .ref (v 35), .ref (v 36), .ref (v 37), .ref (v 38), .long 0, .ref (v 40), .ref (v 41), .ref (v 42), .ref (v 43)])), (v 20, .inl (k 0, 206, .inl (fun _ => 0))), (v 40, .inl (k 0, 824, .inl (fun _ => 0))), (v 41, .inl (k 0, 4, .inl (fun _ => 0))), (v 42, .inl (k 0, 4, .inl (fun _ => 0))), (v 43, .inl (k 2, 4, .inl (upd (fun _ => 0) 2 (vp_nar .boolean 1))))] H := hP
      have hD : va_D A [(h0, .inr (11, [.ref (v 0), .int 0, .int 0, .ref (v 3), .ref (v 4), .ref (v 5), .ref (v 6), .ref (v 7), .int 0, .int 0, .int 0, .int 0, .int 0, .int 0, .int 0, .ref (v 15), .int 0, .ref (v 17), .int 0, .ref (v 19), .ref (v 20), .int (-1), .int 0, .ref (v 23), .int (-1), .int (-1), .int (-1), .int 0, .int (-1), .int 0, .ref (v 30), .int 0, .ref (v 32), .int 0, .int 0, .ref (v 35), .ref (v 36), .ref (v 37), .ref (v 38), .long 0, .ref (v 40), .ref (v 41), .ref (v 42), .ref (v 43)])), (v 20, .inl (k 0, 206, .inl (fun _ => 0))), (v 40, .inl (k 0, 824, .inl (fun _ => 0))), (v 41, .inl (k 0, 4, .inl (fun _ => 0))), (v 42, .inl (k 0, 4, .inl (fun _ => 0))), (v 43, .inl (k 2, 4, .inl (upd (fun _ => 0) 2 (vp_nar .boolean 1))))] := hD
      refine lv_aload_n hx hb dX11_image_21 rfl (lv_at hl 0 rfl) ?_
      refine va_get (D := G) (ci := 11) (v := .ref (v 41)) (C := RX11) (T := TX11) (N := 44) hx hb hts j_m_image_11 hown hE.K hP 0 rfl rfl 41 (by decide) (hts (.fieldLink RX11 83 "GossamerGateModel" "imageForce" "[I") (List.mem_cons_of_mem _ (List.mem_append_left _ (List.mem_of_getElem? (i := 5) rfl)))) (fun _ h9 => h9) rfl dX11_image_22 ?_
      refine lv_iload_n hx hb dX11_image_25 rfl (lv_at hl 1 rfl) ?_
      refine lv_aload_n hx hb dX11_image_26 rfl (lv_at hl 0 rfl) ?_
      refine va_get (D := G) (ci := 11) (v := .int (-1)) (C := RX11) (T := TX11) (N := 44) hx hb hts j_m_image_11 hown hE.K hP 0 rfl rfl 21 (by decide) (hts (.fieldLink RX11 42 "GossamerGateModel" "force" "I") (List.mem_cons_of_mem _ (List.mem_append_left _ (List.mem_of_getElem? (i := 6) rfl)))) (fun _ h9 => h9) rfl dX11_image_27 ?_
      refine va_iast hx hb hE.K hP hD hS 3 0 rfl rfl (gz_in (by decide)) dX11_image_30 (fun H locs hP hD hS => ?_)
      have hP : va_P G vwCl [(h0, .inr (11, [.ref (v 0), .int 0, .int 0, .ref (v 3), .ref (v 4), .ref (v 5), .ref (v 6), .ref (v 7), .int 0, .int 0, .int 0, .int 0, .int 0, .int 0, .int 0, .ref (v 15), .int 0, .ref (v 17), .int 0, .ref (v 19), .ref (v 20), .int (-1), .int 0, .ref (v 23), .int (-1), .int (-1), .int (-1), .int 0, .int (-1), .int 0, .ref (v 30), .int 0, .ref (v 32), .int 0, .int 0, .ref (v 35), .ref (v 36), .ref (v 37), .ref (v 38), .long 0, .ref (v 40), .ref (v 41), .ref (v 42), .ref (v 43)])), (v 20, .inl (k 0, 206, .inl (fun _ => 0))), (v 40, .inl (k 0, 824, .inl (fun _ => 0))), (v 41, .inl (k 0, 4, .inl (upd (fun _ => 0) 2 (-1)))), (v 42, .inl (k 0, 4, .inl (fun _ => 0))), (v 43, .inl (k 2, 4, .inl (upd (fun _ => 0) 2 (vp_nar .boolean 1))))] H := hP
      have hD : va_D A [(h0, .inr (11, [.ref (v 0), .int 0, .int 0, .ref (v 3), .ref (v 4), .ref (v 5), .ref (v 6), .ref (v 7), .int 0, .int 0, .int 0, .int 0, .int 0, .int 0, .int 0, .ref (v 15), .int 0, .ref (v 17), .int 0, .ref (v 19), .ref (v 20), .int (-1), .int 0, .ref (v 23), .int (-1), .int (-1), .int (-1), .int 0, .int (-1), .int 0, .ref (v 30), .int 0, .ref (v 32), .int 0, .int 0, .ref (v 35), .ref (v 36), .ref (v 37), .ref (v 38), .long 0, .ref (v 40), .ref (v 41), .ref (v 42), .ref (v 43)])), (v 20, .inl (k 0, 206, .inl (fun _ => 0))), (v 40, .inl (k 0, 824, .inl (fun _ => 0))), (v 41, .inl (k 0, 4, .inl (upd (fun _ => 0) 2 (-1)))), (v 42, .inl (k 0, 4, .inl (fun _ => 0))), (v 43, .inl (k 2, 4, .inl (upd (fun _ => 0) 2 (vp_nar .boolean 1))))] := hD
      refine lv_aload_n hx hb dX11_image_31 rfl (lv_at hl 0 rfl) ?_
      refine va_get (D := G) (ci := 11) (v := .ref (v 42)) (C := RX11) (T := TX11) (N := 44) hx hb hts j_m_image_11 hown hE.K hP 0 rfl rfl 42 (by decide) (hts (.fieldLink RX11 86 "GossamerGateModel" "imageX" "[I") (List.mem_cons_of_mem _ (List.mem_append_left _ (List.mem_of_getElem? (i := 7) rfl)))) (fun _ h9 => h9) rfl dX11_image_32 ?_
      refine lv_iload_n hx hb dX11_image_35 rfl (lv_at hl 1 rfl) ?_
      refine lv_aload_n hx hb dX11_image_36 rfl (lv_at hl 0 rfl) ?_
      refine va_get (D := G) (ci := 11) (v := .int 0) (C := RX11) (T := TX11) (N := 44) hx hb hts j_m_image_11 hown hE.K hP 0 rfl rfl 22 (by decide) (hts (.fieldLink RX11 463 "GossamerGateModel" "x" "I") (List.mem_cons_of_mem _ (List.mem_append_left _ (List.mem_of_getElem? (i := 8) rfl)))) (fun _ h9 => h9) rfl dX11_image_37 ?_
      refine va_iast hx hb hE.K hP hD hS 4 0 rfl rfl (gz_in (by decide)) dX11_image_40 (fun H locs hP hD hS => ?_)
      have hP : va_P G vwCl [(h0, .inr (11, [.ref (v 0), .int 0, .int 0, .ref (v 3), .ref (v 4), .ref (v 5), .ref (v 6), .ref (v 7), .int 0, .int 0, .int 0, .int 0, .int 0, .int 0, .int 0, .ref (v 15), .int 0, .ref (v 17), .int 0, .ref (v 19), .ref (v 20), .int (-1), .int 0, .ref (v 23), .int (-1), .int (-1), .int (-1), .int 0, .int (-1), .int 0, .ref (v 30), .int 0, .ref (v 32), .int 0, .int 0, .ref (v 35), .ref (v 36), .ref (v 37), .ref (v 38), .long 0, .ref (v 40), .ref (v 41), .ref (v 42), .ref (v 43)])), (v 20, .inl (k 0, 206, .inl (fun _ => 0))), (v 40, .inl (k 0, 824, .inl (fun _ => 0))), (v 41, .inl (k 0, 4, .inl (upd (fun _ => 0) 2 (-1)))), (v 42, .inl (k 0, 4, .inl (upd (fun _ => 0) 2 0))), (v 43, .inl (k 2, 4, .inl (upd (fun _ => 0) 2 (vp_nar .boolean 1))))] H := hP
      have hD : va_D A [(h0, .inr (11, [.ref (v 0), .int 0, .int 0, .ref (v 3), .ref (v 4), .ref (v 5), .ref (v 6), .ref (v 7), .int 0, .int 0, .int 0, .int 0, .int 0, .int 0, .int 0, .ref (v 15), .int 0, .ref (v 17), .int 0, .ref (v 19), .ref (v 20), .int (-1), .int 0, .ref (v 23), .int (-1), .int (-1), .int (-1), .int 0, .int (-1), .int 0, .ref (v 30), .int 0, .ref (v 32), .int 0, .int 0, .ref (v 35), .ref (v 36), .ref (v 37), .ref (v 38), .long 0, .ref (v 40), .ref (v 41), .ref (v 42), .ref (v 43)])), (v 20, .inl (k 0, 206, .inl (fun _ => 0))), (v 40, .inl (k 0, 824, .inl (fun _ => 0))), (v 41, .inl (k 0, 4, .inl (upd (fun _ => 0) 2 (-1)))), (v 42, .inl (k 0, 4, .inl (upd (fun _ => 0) 2 0))), (v 43, .inl (k 2, 4, .inl (upd (fun _ => 0) 2 (vp_nar .boolean 1))))] := hD
      refine lv_iconst (v := 0) hx hb dX11_image_41 (by decide) ?_
      refine lv_istore_n (lv' := [(2, .int 0), (0, .ref h0), (1, .int 2)]) hx hb dX11_image_42 rfl hl (by decide) rfl (fun ls hl => ?_)
      have hL_43 : ∀ (n : Nat) (j : Nat) (f : Nat → Int32) (ls : Array Slot) (H : Heap) (locs : List Loc), (j ≤ 206) → (206 - j) < n → va_P G vwCl [(h0, .inr (11, [.ref (v 0), .int 0, .int 0, .ref (v 3), .ref (v 4), .ref (v 5), .ref (v 6), .ref (v 7), .int 0, .int 0, .int 0, .int 0, .int 0, .int 0, .int 0, .ref (v 15), .int 0, .ref (v 17), .int 0, .ref (v 19), .ref (v 20), .int (-1), .int 0, .ref (v 23), .int (-1), .int (-1), .int (-1), .int 0, .int (-1), .int 0, .ref (v 30), .int 0, .ref (v 32), .int 0, .int 0, .ref (v 35), .ref (v 36), .ref (v 37), .ref (v 38), .long 0, .ref (v 40), .ref (v 41), .ref (v 42), .ref (v 43)])), (v 20, .inl (k 0, 206, .inl (fun _ => 0))), (v 40, .inl (k 0, 824, .inl f)), (v 41, .inl (k 0, 4, .inl (upd (fun _ => 0) 2 (-1)))), (v 42, .inl (k 0, 4, .inl (upd (fun _ => 0) 2 0))), (v 43, .inl (k 2, 4, .inl (upd (fun _ => 0) 2 (vp_nar .boolean 1))))] H → va_D A [(h0, .inr (11, [.ref (v 0), .int 0, .int 0, .ref (v 3), .ref (v 4), .ref (v 5), .ref (v 6), .ref (v 7), .int 0, .int 0, .int 0, .int 0, .int 0, .int 0, .int 0, .ref (v 15), .int 0, .ref (v 17), .int 0, .ref (v 19), .ref (v 20), .int (-1), .int 0, .ref (v 23), .int (-1), .int (-1), .int (-1), .int 0, .int (-1), .int 0, .ref (v 30), .int 0, .ref (v 32), .int 0, .int 0, .ref (v 35), .ref (v 36), .ref (v 37), .ref (v 38), .long 0, .ref (v 40), .ref (v 41), .ref (v 42), .ref (v 43)])), (v 20, .inl (k 0, 206, .inl (fun _ => 0))), (v 40, .inl (k 0, 824, .inl f)), (v 41, .inl (k 0, 4, .inl (upd (fun _ => 0) 2 (-1)))), (v 42, .inl (k 0, 4, .inl (upd (fun _ => 0) 2 0))), (v 43, .inl (k 2, 4, .inl (upd (fun _ => 0) 2 (vp_nar .boolean 1))))] → va_S A s_.heap H locs → lv_has ls 3 [(0, .ref h0), (1, .int 2), (2, .int (nI j))] → W p_ l e_ (headSpec vs_m_image ({ frames := 1, cells := 0, slots := 0, locals := 25 } : Room)).room s_ m [.ref h0, .int (2 : Int32)].toArray below_ meth_ c_ H locs 0 0 (MQ below_ (va_Qi (fun r (_ : Nat → Nat) => (r = 0 ∧ ((0 : Int64) ≤ (2 : Int32).toInt64 ∧ (2 : Int32).toInt64 ≤ 3)) ∨ (r = (-1) ∧ (¬ ((0 : Int64) ≤ (2 : Int32).toInt64 ∧ (2 : Int32).toInt64 ≤ 3)))) (gO G A (fun _ => [])) A) [.ref h0, .int (2 : Int32)].toArray s_ 0 0 A) (F0 m 43 ls []) := by
        intro n
        induction n with
        | zero => intro j f ls H locs hj hm hP hD hS hl; exact absurd hm (Nat.not_lt_zero _)
        | succ n ih =>
          intro j f ls H locs hj hm hP hD hS hl
          refine lv_iload_n hx hb dX11_image_43 rfl (lv_at hl 2 rfl) ?_
          refine lv_sipush (v := 206) hx hb dX11_image_44 (by decide) ?_
          refine lv_icmp_ge (tgt := 74) hx hb dX11_image_47 (by decide) (fun c_9 => ?_) (fun c_9 => ?_)
          · have h_10 : 206 ≤ j := (nI_leI (a := 206) (b := j) (by decide) (by omega)).mp c_9
            refine lv_aload_n hx hb dX11_image_74 rfl (lv_at hl 0 rfl) ?_
            refine va_get (D := G) (ci := 11) (v := .ref (v 20)) (C := RX11) (T := TX11) (N := 44) hx hb hts j_m_image_11 hown hE.K hP 0 rfl rfl 20 (by decide) (hts (.fieldLink RX11 39 "GossamerGateModel" "said" "[I") (List.mem_cons_of_mem _ (List.mem_append_left _ (List.mem_of_getElem? (i := 9) rfl)))) (fun _ h9 => h9) rfl dX11_image_75 ?_
            refine lv_bipush (v := 10) hx hb dX11_image_78 (by decide) ?_
            refine va_iald hx hb hE.K hP 1 0 rfl rfl (gz_in (by decide)) dX11_image_80 ?_
            refine gz_ni (v := 0) rfl ?_
            have hP9 := hP.sub (ws' := []) [] rfl
            have hD9 := hD.sub (ws' := []) [] (by decide) rfl
            exact W.iret (v := 0) hx hb hr (fun t ht hW => ⟨⟨0, (fun _ => 0), rfl, (Or.inl ⟨rfl, by decide⟩), by rw [ht]; exact hP9, hD9⟩, hS.F ht⟩) hS.2.2 dX11_image_81
          · have h_11 : j < 206 := Nat.lt_of_not_le (fun q => c_9 ((nI_leI (a := 206) (b := j) (by decide) (by omega)).mpr q))
            refine lv_aload_n hx hb dX11_image_50 rfl (lv_at hl 0 rfl) ?_
            refine va_get (D := G) (ci := 11) (v := .ref (v 40)) (C := RX11) (T := TX11) (N := 44) hx hb hts j_m_image_11 hown hE.K hP 0 rfl rfl 40 (by decide) (hts (.fieldLink RX11 80 "GossamerGateModel" "images" "[I") (List.mem_cons_of_mem _ (List.mem_append_left _ (List.mem_of_getElem? (i := 10) rfl)))) (fun _ h9 => h9) rfl dX11_image_51 ?_
            refine lv_sipush (v := 206) hx hb dX11_image_54 (by decide) ?_
            refine lv_iload_n hx hb dX11_image_57 rfl (lv_at hl 1 rfl) ?_
            refine lv_imul hx hb dX11_image_58 ?_
            refine gz_ni (v := 412) (by decide) ?_
            refine lv_iload_n hx hb dX11_image_59 rfl (lv_at hl 2 rfl) ?_
            refine lv_iadd hx hb dX11_image_60 ?_
            refine gz_ni (v := nI (412 + j)) (nI_add 412 j) ?_
            refine lv_aload_n hx hb dX11_image_61 rfl (lv_at hl 0 rfl) ?_
            refine va_get (D := G) (ci := 11) (v := .ref (v 20)) (C := RX11) (T := TX11) (N := 44) hx hb hts j_m_image_11 hown hE.K hP 0 rfl rfl 20 (by decide) (hts (.fieldLink RX11 39 "GossamerGateModel" "said" "[I") (List.mem_cons_of_mem _ (List.mem_append_left _ (List.mem_of_getElem? (i := 9) rfl)))) (fun _ h9 => h9) rfl dX11_image_62 ?_
            refine lv_iload_n hx hb dX11_image_65 rfl (lv_at hl 2 rfl) ?_
            refine va_iald hx hb hE.K hP 1 0 rfl rfl (vp_in_nI (by omega) (by decide)) dX11_image_66 ?_
            refine gz_ni (v := 0) rfl ?_
            refine va_iast hx hb hE.K hP hD hS 2 0 rfl rfl (vp_in_nI (by omega) (by decide)) dX11_image_67 (fun H locs hP hD hS => ?_)
            have hP : va_P G vwCl [(h0, .inr (11, [.ref (v 0), .int 0, .int 0, .ref (v 3), .ref (v 4), .ref (v 5), .ref (v 6), .ref (v 7), .int 0, .int 0, .int 0, .int 0, .int 0, .int 0, .int 0, .ref (v 15), .int 0, .ref (v 17), .int 0, .ref (v 19), .ref (v 20), .int (-1), .int 0, .ref (v 23), .int (-1), .int (-1), .int (-1), .int 0, .int (-1), .int 0, .ref (v 30), .int 0, .ref (v 32), .int 0, .int 0, .ref (v 35), .ref (v 36), .ref (v 37), .ref (v 38), .long 0, .ref (v 40), .ref (v 41), .ref (v 42), .ref (v 43)])), (v 20, .inl (k 0, 206, .inl (fun _ => 0))), (v 40, .inl (k 0, 824, .inl (upd f (Int32.toNatClampNeg (nI (412 + j))) 0))), (v 41, .inl (k 0, 4, .inl (upd (fun _ => 0) 2 (-1)))), (v 42, .inl (k 0, 4, .inl (upd (fun _ => 0) 2 0))), (v 43, .inl (k 2, 4, .inl (upd (fun _ => 0) 2 (vp_nar .boolean 1))))] H := hP
            have hD : va_D A [(h0, .inr (11, [.ref (v 0), .int 0, .int 0, .ref (v 3), .ref (v 4), .ref (v 5), .ref (v 6), .ref (v 7), .int 0, .int 0, .int 0, .int 0, .int 0, .int 0, .int 0, .ref (v 15), .int 0, .ref (v 17), .int 0, .ref (v 19), .ref (v 20), .int (-1), .int 0, .ref (v 23), .int (-1), .int (-1), .int (-1), .int 0, .int (-1), .int 0, .ref (v 30), .int 0, .ref (v 32), .int 0, .int 0, .ref (v 35), .ref (v 36), .ref (v 37), .ref (v 38), .long 0, .ref (v 40), .ref (v 41), .ref (v 42), .ref (v 43)])), (v 20, .inl (k 0, 206, .inl (fun _ => 0))), (v 40, .inl (k 0, 824, .inl (upd f (Int32.toNatClampNeg (nI (412 + j))) 0))), (v 41, .inl (k 0, 4, .inl (upd (fun _ => 0) 2 (-1)))), (v 42, .inl (k 0, 4, .inl (upd (fun _ => 0) 2 0))), (v 43, .inl (k 2, 4, .inl (upd (fun _ => 0) 2 (vp_nar .boolean 1))))] := hD
            refine lv_iinc (v := (nI (j + 1))) (lv' := [(2, .int (nI (j + 1))), (0, .ref h0), (1, .int 2)]) hx hb dX11_image_68 hl (k := 2) rfl (nI_1 _) (by decide) rfl (fun ls hl => ?_)
            refine lv_goto (tgt := 43) hx hb dX11_image_71 (by decide) ?_
            exact ih (j + 1) (upd f (Int32.toNatClampNeg (nI (412 + j))) 0) ls H locs (by omega) (by omega) hP hD hS (lv_sub hl [1, 2, 0] rfl)
      exact hL_43 _ 0 (fun _ => 0) ls H locs (by omega) (Nat.lt_succ_self _) hP hD hS (lv_sub hl [1, 2, 0] rfl)
    · refine lv_aload_n hx hb dX11_image_14 rfl (lv_at hl 0 rfl) ?_
      refine va_get (D := G) (ci := 11) (v := .ref (v 43)) (C := RX11) (T := TX11) (N := 44) hx hb hts j_m_image_11 hown hE.K hP 0 rfl rfl 43 (by decide) (hts (.fieldLink RX11 89 "GossamerGateModel" "isMade" "[Z") (List.mem_cons_of_mem _ (List.mem_append_left _ (List.mem_of_getElem? (i := 4) rfl)))) (fun _ h9 => h9) rfl dX11_image_15 ?_
      refine lv_iload_n hx hb dX11_image_18 rfl (lv_at hl 1 rfl) ?_
      refine lv_iconst (v := 1) hx hb dX11_image_19 (by decide) ?_
      refine va_zast hx hb hE.K hP hD hS 5 2 rfl rfl (gz_in (by decide)) dX11_image_20 (fun H locs hP hD hS => ?_)
      have hP : va_P G vwCl [(h0, .inr (11, [.ref (v 0), .int 0, .int 0, .ref (v 3), .ref (v 4), .ref (v 5), .ref (v 6), .ref (v 7), .int 0, .int 0, .int 0, .int 0, .int 0, .int 0, .int 0, .ref (v 15), .int 0, .ref (v 17), .int 0, .ref (v 19), .ref (v 20), .int (-1), .int 0, .ref (v 23), .int (-1), .int (-1), .int (-1), .int 0, .int (-1), .int 0, .ref (v 30), .int 0, .ref (v 32), .int 0, .int 0, .ref (v 35), .ref (v 36), .ref (v 37), .ref (v 38), .long 0, .ref (v 40), .ref (v 41), .ref (v 42), .ref (v 43)])), (v 20, .inl (k 0, 206, .inl (fun _ => 0))), (v 40, .inl (k 0, 824, .inl (fun _ => 0))), (v 41, .inl (k 0, 4, .inl (fun _ => 0))), (v 42, .inl (k 0, 4, .inl (fun _ => 0))), (v 43, .inl (k 2, 4, .inl (upd (fun _ => 0) 3 (vp_nar .boolean 1))))] H := hP
      have hD : va_D A [(h0, .inr (11, [.ref (v 0), .int 0, .int 0, .ref (v 3), .ref (v 4), .ref (v 5), .ref (v 6), .ref (v 7), .int 0, .int 0, .int 0, .int 0, .int 0, .int 0, .int 0, .ref (v 15), .int 0, .ref (v 17), .int 0, .ref (v 19), .ref (v 20), .int (-1), .int 0, .ref (v 23), .int (-1), .int (-1), .int (-1), .int 0, .int (-1), .int 0, .ref (v 30), .int 0, .ref (v 32), .int 0, .int 0, .ref (v 35), .ref (v 36), .ref (v 37), .ref (v 38), .long 0, .ref (v 40), .ref (v 41), .ref (v 42), .ref (v 43)])), (v 20, .inl (k 0, 206, .inl (fun _ => 0))), (v 40, .inl (k 0, 824, .inl (fun _ => 0))), (v 41, .inl (k 0, 4, .inl (fun _ => 0))), (v 42, .inl (k 0, 4, .inl (fun _ => 0))), (v 43, .inl (k 2, 4, .inl (upd (fun _ => 0) 3 (vp_nar .boolean 1))))] := hD
      refine lv_aload_n hx hb dX11_image_21 rfl (lv_at hl 0 rfl) ?_
      refine va_get (D := G) (ci := 11) (v := .ref (v 41)) (C := RX11) (T := TX11) (N := 44) hx hb hts j_m_image_11 hown hE.K hP 0 rfl rfl 41 (by decide) (hts (.fieldLink RX11 83 "GossamerGateModel" "imageForce" "[I") (List.mem_cons_of_mem _ (List.mem_append_left _ (List.mem_of_getElem? (i := 5) rfl)))) (fun _ h9 => h9) rfl dX11_image_22 ?_
      refine lv_iload_n hx hb dX11_image_25 rfl (lv_at hl 1 rfl) ?_
      refine lv_aload_n hx hb dX11_image_26 rfl (lv_at hl 0 rfl) ?_
      refine va_get (D := G) (ci := 11) (v := .int (-1)) (C := RX11) (T := TX11) (N := 44) hx hb hts j_m_image_11 hown hE.K hP 0 rfl rfl 21 (by decide) (hts (.fieldLink RX11 42 "GossamerGateModel" "force" "I") (List.mem_cons_of_mem _ (List.mem_append_left _ (List.mem_of_getElem? (i := 6) rfl)))) (fun _ h9 => h9) rfl dX11_image_27 ?_
      refine va_iast hx hb hE.K hP hD hS 3 0 rfl rfl (gz_in (by decide)) dX11_image_30 (fun H locs hP hD hS => ?_)
      have hP : va_P G vwCl [(h0, .inr (11, [.ref (v 0), .int 0, .int 0, .ref (v 3), .ref (v 4), .ref (v 5), .ref (v 6), .ref (v 7), .int 0, .int 0, .int 0, .int 0, .int 0, .int 0, .int 0, .ref (v 15), .int 0, .ref (v 17), .int 0, .ref (v 19), .ref (v 20), .int (-1), .int 0, .ref (v 23), .int (-1), .int (-1), .int (-1), .int 0, .int (-1), .int 0, .ref (v 30), .int 0, .ref (v 32), .int 0, .int 0, .ref (v 35), .ref (v 36), .ref (v 37), .ref (v 38), .long 0, .ref (v 40), .ref (v 41), .ref (v 42), .ref (v 43)])), (v 20, .inl (k 0, 206, .inl (fun _ => 0))), (v 40, .inl (k 0, 824, .inl (fun _ => 0))), (v 41, .inl (k 0, 4, .inl (upd (fun _ => 0) 3 (-1)))), (v 42, .inl (k 0, 4, .inl (fun _ => 0))), (v 43, .inl (k 2, 4, .inl (upd (fun _ => 0) 3 (vp_nar .boolean 1))))] H := hP
      have hD : va_D A [(h0, .inr (11, [.ref (v 0), .int 0, .int 0, .ref (v 3), .ref (v 4), .ref (v 5), .ref (v 6), .ref (v 7), .int 0, .int 0, .int 0, .int 0, .int 0, .int 0, .int 0, .ref (v 15), .int 0, .ref (v 17), .int 0, .ref (v 19), .ref (v 20), .int (-1), .int 0, .ref (v 23), .int (-1), .int (-1), .int (-1), .int 0, .int (-1), .int 0, .ref (v 30), .int 0, .ref (v 32), .int 0, .int 0, .ref (v 35), .ref (v 36), .ref (v 37), .ref (v 38), .long 0, .ref (v 40), .ref (v 41), .ref (v 42), .ref (v 43)])), (v 20, .inl (k 0, 206, .inl (fun _ => 0))), (v 40, .inl (k 0, 824, .inl (fun _ => 0))), (v 41, .inl (k 0, 4, .inl (upd (fun _ => 0) 3 (-1)))), (v 42, .inl (k 0, 4, .inl (fun _ => 0))), (v 43, .inl (k 2, 4, .inl (upd (fun _ => 0) 3 (vp_nar .boolean 1))))] := hD
      refine lv_aload_n hx hb dX11_image_31 rfl (lv_at hl 0 rfl) ?_
      refine va_get (D := G) (ci := 11) (v := .ref (v 42)) (C := RX11) (T := TX11) (N := 44) hx hb hts j_m_image_11 hown hE.K hP 0 rfl rfl 42 (by decide) (hts (.fieldLink RX11 86 "GossamerGateModel" "imageX" "[I") (List.mem_cons_of_mem _ (List.mem_append_left _ (List.mem_of_getElem? (i := 7) rfl)))) (fun _ h9 => h9) rfl dX11_image_32 ?_
      refine lv_iload_n hx hb dX11_image_35 rfl (lv_at hl 1 rfl) ?_
      refine lv_aload_n hx hb dX11_image_36 rfl (lv_at hl 0 rfl) ?_
      refine va_get (D := G) (ci := 11) (v := .int 0) (C := RX11) (T := TX11) (N := 44) hx hb hts j_m_image_11 hown hE.K hP 0 rfl rfl 22 (by decide) (hts (.fieldLink RX11 463 "GossamerGateModel" "x" "I") (List.mem_cons_of_mem _ (List.mem_append_left _ (List.mem_of_getElem? (i := 8) rfl)))) (fun _ h9 => h9) rfl dX11_image_37 ?_
      refine va_iast hx hb hE.K hP hD hS 4 0 rfl rfl (gz_in (by decide)) dX11_image_40 (fun H locs hP hD hS => ?_)
      have hP : va_P G vwCl [(h0, .inr (11, [.ref (v 0), .int 0, .int 0, .ref (v 3), .ref (v 4), .ref (v 5), .ref (v 6), .ref (v 7), .int 0, .int 0, .int 0, .int 0, .int 0, .int 0, .int 0, .ref (v 15), .int 0, .ref (v 17), .int 0, .ref (v 19), .ref (v 20), .int (-1), .int 0, .ref (v 23), .int (-1), .int (-1), .int (-1), .int 0, .int (-1), .int 0, .ref (v 30), .int 0, .ref (v 32), .int 0, .int 0, .ref (v 35), .ref (v 36), .ref (v 37), .ref (v 38), .long 0, .ref (v 40), .ref (v 41), .ref (v 42), .ref (v 43)])), (v 20, .inl (k 0, 206, .inl (fun _ => 0))), (v 40, .inl (k 0, 824, .inl (fun _ => 0))), (v 41, .inl (k 0, 4, .inl (upd (fun _ => 0) 3 (-1)))), (v 42, .inl (k 0, 4, .inl (upd (fun _ => 0) 3 0))), (v 43, .inl (k 2, 4, .inl (upd (fun _ => 0) 3 (vp_nar .boolean 1))))] H := hP
      have hD : va_D A [(h0, .inr (11, [.ref (v 0), .int 0, .int 0, .ref (v 3), .ref (v 4), .ref (v 5), .ref (v 6), .ref (v 7), .int 0, .int 0, .int 0, .int 0, .int 0, .int 0, .int 0, .ref (v 15), .int 0, .ref (v 17), .int 0, .ref (v 19), .ref (v 20), .int (-1), .int 0, .ref (v 23), .int (-1), .int (-1), .int (-1), .int 0, .int (-1), .int 0, .ref (v 30), .int 0, .ref (v 32), .int 0, .int 0, .ref (v 35), .ref (v 36), .ref (v 37), .ref (v 38), .long 0, .ref (v 40), .ref (v 41), .ref (v 42), .ref (v 43)])), (v 20, .inl (k 0, 206, .inl (fun _ => 0))), (v 40, .inl (k 0, 824, .inl (fun _ => 0))), (v 41, .inl (k 0, 4, .inl (upd (fun _ => 0) 3 (-1)))), (v 42, .inl (k 0, 4, .inl (upd (fun _ => 0) 3 0))), (v 43, .inl (k 2, 4, .inl (upd (fun _ => 0) 3 (vp_nar .boolean 1))))] := hD
      refine lv_iconst (v := 0) hx hb dX11_image_41 (by decide) ?_
      refine lv_istore_n (lv' := [(2, .int 0), (0, .ref h0), (1, .int 3)]) hx hb dX11_image_42 rfl hl (by decide) rfl (fun ls hl => ?_)
      have hL_43 : ∀ (n : Nat) (j : Nat) (f : Nat → Int32) (ls : Array Slot) (H : Heap) (locs : List Loc), (j ≤ 206) → (206 - j) < n → va_P G vwCl [(h0, .inr (11, [.ref (v 0), .int 0, .int 0, .ref (v 3), .ref (v 4), .ref (v 5), .ref (v 6), .ref (v 7), .int 0, .int 0, .int 0, .int 0, .int 0, .int 0, .int 0, .ref (v 15), .int 0, .ref (v 17), .int 0, .ref (v 19), .ref (v 20), .int (-1), .int 0, .ref (v 23), .int (-1), .int (-1), .int (-1), .int 0, .int (-1), .int 0, .ref (v 30), .int 0, .ref (v 32), .int 0, .int 0, .ref (v 35), .ref (v 36), .ref (v 37), .ref (v 38), .long 0, .ref (v 40), .ref (v 41), .ref (v 42), .ref (v 43)])), (v 20, .inl (k 0, 206, .inl (fun _ => 0))), (v 40, .inl (k 0, 824, .inl f)), (v 41, .inl (k 0, 4, .inl (upd (fun _ => 0) 3 (-1)))), (v 42, .inl (k 0, 4, .inl (upd (fun _ => 0) 3 0))), (v 43, .inl (k 2, 4, .inl (upd (fun _ => 0) 3 (vp_nar .boolean 1))))] H → va_D A [(h0, .inr (11, [.ref (v 0), .int 0, .int 0, .ref (v 3), .ref (v 4), .ref (v 5), .ref (v 6), .ref (v 7), .int 0, .int 0, .int 0, .int 0, .int 0, .int 0, .int 0, .ref (v 15), .int 0, .ref (v 17), .int 0, .ref (v 19), .ref (v 20), .int (-1), .int 0, .ref (v 23), .int (-1), .int (-1), .int (-1), .int 0, .int (-1), .int 0, .ref (v 30), .int 0, .ref (v 32), .int 0, .int 0, .ref (v 35), .ref (v 36), .ref (v 37), .ref (v 38), .long 0, .ref (v 40), .ref (v 41), .ref (v 42), .ref (v 43)])), (v 20, .inl (k 0, 206, .inl (fun _ => 0))), (v 40, .inl (k 0, 824, .inl f)), (v 41, .inl (k 0, 4, .inl (upd (fun _ => 0) 3 (-1)))), (v 42, .inl (k 0, 4, .inl (upd (fun _ => 0) 3 0))), (v 43, .inl (k 2, 4, .inl (upd (fun _ => 0) 3 (vp_nar .boolean 1))))] → va_S A s_.heap H locs → lv_has ls 3 [(0, .ref h0), (1, .int 3), (2, .int (nI j))] → W p_ l e_ (headSpec vs_m_image ({ frames := 1, cells := 0, slots := 0, locals := 25 } : Room)).room s_ m [.ref h0, .int (3 : Int32)].toArray below_ meth_ c_ H locs 0 0 (MQ below_ (va_Qi (fun r (_ : Nat → Nat) => (r = 0 ∧ ((0 : Int64) ≤ (3 : Int32).toInt64 ∧ (3 : Int32).toInt64 ≤ 3)) ∨ (r = (-1) ∧ (¬ ((0 : Int64) ≤ (3 : Int32).toInt64 ∧ (3 : Int32).toInt64 ≤ 3)))) (gO G A (fun _ => [])) A) [.ref h0, .int (3 : Int32)].toArray s_ 0 0 A) (F0 m 43 ls []) := by
        intro n
        induction n with
        | zero => intro j f ls H locs hj hm hP hD hS hl; exact absurd hm (Nat.not_lt_zero _)
        | succ n ih =>
          intro j f ls H locs hj hm hP hD hS hl
          refine lv_iload_n hx hb dX11_image_43 rfl (lv_at hl 2 rfl) ?_
          refine lv_sipush (v := 206) hx hb dX11_image_44 (by decide) ?_
          refine lv_icmp_ge (tgt := 74) hx hb dX11_image_47 (by decide) (fun c_12 => ?_) (fun c_12 => ?_)
          · have h_13 : 206 ≤ j := (nI_leI (a := 206) (b := j) (by decide) (by omega)).mp c_12
            refine lv_aload_n hx hb dX11_image_74 rfl (lv_at hl 0 rfl) ?_
            refine va_get (D := G) (ci := 11) (v := .ref (v 20)) (C := RX11) (T := TX11) (N := 44) hx hb hts j_m_image_11 hown hE.K hP 0 rfl rfl 20 (by decide) (hts (.fieldLink RX11 39 "GossamerGateModel" "said" "[I") (List.mem_cons_of_mem _ (List.mem_append_left _ (List.mem_of_getElem? (i := 9) rfl)))) (fun _ h9 => h9) rfl dX11_image_75 ?_
            refine lv_bipush (v := 10) hx hb dX11_image_78 (by decide) ?_
            refine va_iald hx hb hE.K hP 1 0 rfl rfl (gz_in (by decide)) dX11_image_80 ?_
            refine gz_ni (v := 0) rfl ?_
            have hP9 := hP.sub (ws' := []) [] rfl
            have hD9 := hD.sub (ws' := []) [] (by decide) rfl
            exact W.iret (v := 0) hx hb hr (fun t ht hW => ⟨⟨0, (fun _ => 0), rfl, (Or.inl ⟨rfl, by decide⟩), by rw [ht]; exact hP9, hD9⟩, hS.F ht⟩) hS.2.2 dX11_image_81
          · have h_14 : j < 206 := Nat.lt_of_not_le (fun q => c_12 ((nI_leI (a := 206) (b := j) (by decide) (by omega)).mpr q))
            refine lv_aload_n hx hb dX11_image_50 rfl (lv_at hl 0 rfl) ?_
            refine va_get (D := G) (ci := 11) (v := .ref (v 40)) (C := RX11) (T := TX11) (N := 44) hx hb hts j_m_image_11 hown hE.K hP 0 rfl rfl 40 (by decide) (hts (.fieldLink RX11 80 "GossamerGateModel" "images" "[I") (List.mem_cons_of_mem _ (List.mem_append_left _ (List.mem_of_getElem? (i := 10) rfl)))) (fun _ h9 => h9) rfl dX11_image_51 ?_
            refine lv_sipush (v := 206) hx hb dX11_image_54 (by decide) ?_
            refine lv_iload_n hx hb dX11_image_57 rfl (lv_at hl 1 rfl) ?_
            refine lv_imul hx hb dX11_image_58 ?_
            refine gz_ni (v := 618) (by decide) ?_
            refine lv_iload_n hx hb dX11_image_59 rfl (lv_at hl 2 rfl) ?_
            refine lv_iadd hx hb dX11_image_60 ?_
            refine gz_ni (v := nI (618 + j)) (nI_add 618 j) ?_
            refine lv_aload_n hx hb dX11_image_61 rfl (lv_at hl 0 rfl) ?_
            refine va_get (D := G) (ci := 11) (v := .ref (v 20)) (C := RX11) (T := TX11) (N := 44) hx hb hts j_m_image_11 hown hE.K hP 0 rfl rfl 20 (by decide) (hts (.fieldLink RX11 39 "GossamerGateModel" "said" "[I") (List.mem_cons_of_mem _ (List.mem_append_left _ (List.mem_of_getElem? (i := 9) rfl)))) (fun _ h9 => h9) rfl dX11_image_62 ?_
            refine lv_iload_n hx hb dX11_image_65 rfl (lv_at hl 2 rfl) ?_
            refine va_iald hx hb hE.K hP 1 0 rfl rfl (vp_in_nI (by omega) (by decide)) dX11_image_66 ?_
            refine gz_ni (v := 0) rfl ?_
            refine va_iast hx hb hE.K hP hD hS 2 0 rfl rfl (vp_in_nI (by omega) (by decide)) dX11_image_67 (fun H locs hP hD hS => ?_)
            have hP : va_P G vwCl [(h0, .inr (11, [.ref (v 0), .int 0, .int 0, .ref (v 3), .ref (v 4), .ref (v 5), .ref (v 6), .ref (v 7), .int 0, .int 0, .int 0, .int 0, .int 0, .int 0, .int 0, .ref (v 15), .int 0, .ref (v 17), .int 0, .ref (v 19), .ref (v 20), .int (-1), .int 0, .ref (v 23), .int (-1), .int (-1), .int (-1), .int 0, .int (-1), .int 0, .ref (v 30), .int 0, .ref (v 32), .int 0, .int 0, .ref (v 35), .ref (v 36), .ref (v 37), .ref (v 38), .long 0, .ref (v 40), .ref (v 41), .ref (v 42), .ref (v 43)])), (v 20, .inl (k 0, 206, .inl (fun _ => 0))), (v 40, .inl (k 0, 824, .inl (upd f (Int32.toNatClampNeg (nI (618 + j))) 0))), (v 41, .inl (k 0, 4, .inl (upd (fun _ => 0) 3 (-1)))), (v 42, .inl (k 0, 4, .inl (upd (fun _ => 0) 3 0))), (v 43, .inl (k 2, 4, .inl (upd (fun _ => 0) 3 (vp_nar .boolean 1))))] H := hP
            have hD : va_D A [(h0, .inr (11, [.ref (v 0), .int 0, .int 0, .ref (v 3), .ref (v 4), .ref (v 5), .ref (v 6), .ref (v 7), .int 0, .int 0, .int 0, .int 0, .int 0, .int 0, .int 0, .ref (v 15), .int 0, .ref (v 17), .int 0, .ref (v 19), .ref (v 20), .int (-1), .int 0, .ref (v 23), .int (-1), .int (-1), .int (-1), .int 0, .int (-1), .int 0, .ref (v 30), .int 0, .ref (v 32), .int 0, .int 0, .ref (v 35), .ref (v 36), .ref (v 37), .ref (v 38), .long 0, .ref (v 40), .ref (v 41), .ref (v 42), .ref (v 43)])), (v 20, .inl (k 0, 206, .inl (fun _ => 0))), (v 40, .inl (k 0, 824, .inl (upd f (Int32.toNatClampNeg (nI (618 + j))) 0))), (v 41, .inl (k 0, 4, .inl (upd (fun _ => 0) 3 (-1)))), (v 42, .inl (k 0, 4, .inl (upd (fun _ => 0) 3 0))), (v 43, .inl (k 2, 4, .inl (upd (fun _ => 0) 3 (vp_nar .boolean 1))))] := hD
            refine lv_iinc (v := (nI (j + 1))) (lv' := [(2, .int (nI (j + 1))), (0, .ref h0), (1, .int 3)]) hx hb dX11_image_68 hl (k := 2) rfl (nI_1 _) (by decide) rfl (fun ls hl => ?_)
            refine lv_goto (tgt := 43) hx hb dX11_image_71 (by decide) ?_
            exact ih (j + 1) (upd f (Int32.toNatClampNeg (nI (618 + j))) 0) ls H locs (by omega) (by omega) hP hD hS (lv_sub hl [1, 2, 0] rfl)
      exact hL_43 _ 0 (fun _ => 0) ls H locs (by omega) (Nat.lt_succ_self _) hP hD hS (lv_sub hl [1, 2, 0] rfl)
  · refine lv_if_ne (tgt := 14) hx hb dX11_image_9 (by decide) (fun h9 => absurd h9 (by decide)) (fun _ => ?_)
    refine lv_iconst (v := (-1)) hx hb dX11_image_12 (by decide) ?_
    have hP9 := hP.sub (ws' := []) [] rfl
    have hD9 := hD.sub (ws' := []) [] (by decide) rfl
    exact W.iret (v := (-1)) hx hb hr (fun t ht hW => ⟨⟨(-1), (fun _ => 0), rfl, (Or.inr ⟨rfl, c_2⟩), by rw [ht]; exact hP9, hD9⟩, hS.F ht⟩) hS.2.2 dX11_image_13
set_option maxHeartbeats 4000000 in
set_option maxRecDepth 100000 in
theorem m_back (l : Launch) (G : va_G) (k : Nat → ClassId) (sa : Nat → Nat) (h0 : Nat) (v : Nat → Nat) (a : Int32) : Met l yX11_back vs_m_back ({ frames := 1, cells := 0, slots := 0, locals := 25 } : Room) (gR G k sa [.ref h0, .int a] [(h0, .inr (11, [.ref (v 0), .int 0, .int 0, .ref (v 3), .ref (v 4), .ref (v 5), .ref (v 6), .ref (v 7), .int 0, .int 0, .int 0, .int 0, .int 0, .int 0, .int 0, .ref (v 15), .int 0, .ref (v 17), .int 0, .ref (v 19), .ref (v 20), .int (-1), .int 0, .ref (v 23), .int (-1), .int (-1), .int (-1), .int 0, .int (-1), .int 0, .ref (v 30), .int 0, .ref (v 32), .int 0, .int 0, .ref (v 35), .ref (v 36), .ref (v 37), .ref (v 38), .long 0, .ref (v 40), .ref (v 41), .ref (v 42), .ref (v 43)])), (v 43, .inl (k 2, 4, .inl (fun _ => 0)))]) (vp_Si (fun r => r = (-1))) 0 0 (fun _ => False) := by
  refine gz_metR (cc := cX11_back) (maxL := 3) (ret := (some .int)) (by decide) rfl (Nat.le_of_ble_eq_true rfl) ?_
  intro p_ e_ s_ m below_ meth_ c_ ls hx hb hr hml hts hown hlocks hP hE hl
  have hl : lv_has ls 3 [(0, .ref h0), (1, .int a)] := hl
  refine lv_iload_n hx hb dX11_back_0 rfl (lv_at hl 1 rfl) ?_
  refine lv_i2l (v := a.toInt64) hx hb dX11_back_1 rfl ?_
  refine lv_lconst (v := 0) hx hb dX11_back_2 (by decide) ?_
  refine lv_ldc2 (v := 3) hx hb hown (hts (.constantLong RX11 486 (3)) (List.mem_cons_of_mem _ (List.mem_append_left _ (List.mem_of_getElem? (i := 0) rfl)))) dX11_back_3 ?_
  refine vp_callSi (W.runS (As := [.long a.toInt64, .long 0, .long 3]) (rest := []) ⟨hx, hb, hml, hown, hts⟩ (m_in l G k sa a.toInt64 0 3) (va_cwS 3 hts g_m_back_130_m_in rfl rfl rfl (by decide +kernel) ⟨(Nat.le_of_ble_eq_true rfl), (Nat.le_of_ble_eq_true rfl)⟩) ⟨gR.bl, (gR.pre (wc := []) hE hP [] rfl)⟩ rfl rfl hl.1 rfl (lv_room (Nat.le_of_ble_eq_true rfl)) dX11_back_6 ⟨(Nat.le_of_ble_eq_true rfl), (Nat.le_of_ble_eq_true rfl)⟩) (fun r_1 hr_1 => ?_)
  rcases hr_1 with ⟨rfl, c_2⟩ | ⟨rfl, c_2⟩
  · refine lv_if_eq (tgt := 21) hx hb dX11_back_9 (by decide) (fun h9 => absurd h9 (by decide)) (fun _ => ?_)
    rcases gz_inL3 c_2 with rfl | rfl | rfl | rfl
    · refine lv_aload_n hx hb dX11_back_12 rfl (lv_at hl 0 rfl) ?_
      refine va_get (D := G) (ci := 11) (v := .ref (v 43)) (C := RX11) (T := TX11) (N := 44) hx hb hts j_m_back_11 hown hE.K hP 0 rfl rfl 43 (by decide) (hts (.fieldLink RX11 89 "GossamerGateModel" "isMade" "[Z") (List.mem_cons_of_mem _ (List.mem_append_left _ (List.mem_of_getElem? (i := 4) rfl)))) (fun _ h9 => h9) rfl dX11_back_13 ?_
      refine lv_iload_n hx hb dX11_back_16 rfl (lv_at hl 1 rfl) ?_
      refine va_zald hx hb hE.K hP 1 2 rfl rfl (gz_in (by decide)) dX11_back_17 ?_
      refine gz_ni (v := 0) rfl ?_
      refine lv_if_ne (tgt := 23) hx hb dX11_back_18 (by decide) (fun h9 => absurd h9 (by decide)) (fun _ => ?_)
      refine lv_iconst (v := (-1)) hx hb dX11_back_21 (by decide) ?_
      exact W.iret (v := (-1)) hx hb hr (fun t ht hW => ⟨(-1), rfl, rfl, ht⟩) (fun _ h9 => absurd h9 List.not_mem_nil) dX11_back_22
    · refine lv_aload_n hx hb dX11_back_12 rfl (lv_at hl 0 rfl) ?_
      refine va_get (D := G) (ci := 11) (v := .ref (v 43)) (C := RX11) (T := TX11) (N := 44) hx hb hts j_m_back_11 hown hE.K hP 0 rfl rfl 43 (by decide) (hts (.fieldLink RX11 89 "GossamerGateModel" "isMade" "[Z") (List.mem_cons_of_mem _ (List.mem_append_left _ (List.mem_of_getElem? (i := 4) rfl)))) (fun _ h9 => h9) rfl dX11_back_13 ?_
      refine lv_iload_n hx hb dX11_back_16 rfl (lv_at hl 1 rfl) ?_
      refine va_zald hx hb hE.K hP 1 2 rfl rfl (gz_in (by decide)) dX11_back_17 ?_
      refine gz_ni (v := 0) rfl ?_
      refine lv_if_ne (tgt := 23) hx hb dX11_back_18 (by decide) (fun h9 => absurd h9 (by decide)) (fun _ => ?_)
      refine lv_iconst (v := (-1)) hx hb dX11_back_21 (by decide) ?_
      exact W.iret (v := (-1)) hx hb hr (fun t ht hW => ⟨(-1), rfl, rfl, ht⟩) (fun _ h9 => absurd h9 List.not_mem_nil) dX11_back_22
    · refine lv_aload_n hx hb dX11_back_12 rfl (lv_at hl 0 rfl) ?_
      refine va_get (D := G) (ci := 11) (v := .ref (v 43)) (C := RX11) (T := TX11) (N := 44) hx hb hts j_m_back_11 hown hE.K hP 0 rfl rfl 43 (by decide) (hts (.fieldLink RX11 89 "GossamerGateModel" "isMade" "[Z") (List.mem_cons_of_mem _ (List.mem_append_left _ (List.mem_of_getElem? (i := 4) rfl)))) (fun _ h9 => h9) rfl dX11_back_13 ?_
      refine lv_iload_n hx hb dX11_back_16 rfl (lv_at hl 1 rfl) ?_
      refine va_zald hx hb hE.K hP 1 2 rfl rfl (gz_in (by decide)) dX11_back_17 ?_
      refine gz_ni (v := 0) rfl ?_
      refine lv_if_ne (tgt := 23) hx hb dX11_back_18 (by decide) (fun h9 => absurd h9 (by decide)) (fun _ => ?_)
      refine lv_iconst (v := (-1)) hx hb dX11_back_21 (by decide) ?_
      exact W.iret (v := (-1)) hx hb hr (fun t ht hW => ⟨(-1), rfl, rfl, ht⟩) (fun _ h9 => absurd h9 List.not_mem_nil) dX11_back_22
    · refine lv_aload_n hx hb dX11_back_12 rfl (lv_at hl 0 rfl) ?_
      refine va_get (D := G) (ci := 11) (v := .ref (v 43)) (C := RX11) (T := TX11) (N := 44) hx hb hts j_m_back_11 hown hE.K hP 0 rfl rfl 43 (by decide) (hts (.fieldLink RX11 89 "GossamerGateModel" "isMade" "[Z") (List.mem_cons_of_mem _ (List.mem_append_left _ (List.mem_of_getElem? (i := 4) rfl)))) (fun _ h9 => h9) rfl dX11_back_13 ?_
      refine lv_iload_n hx hb dX11_back_16 rfl (lv_at hl 1 rfl) ?_
      refine va_zald hx hb hE.K hP 1 2 rfl rfl (gz_in (by decide)) dX11_back_17 ?_
      refine gz_ni (v := 0) rfl ?_
      refine lv_if_ne (tgt := 23) hx hb dX11_back_18 (by decide) (fun h9 => absurd h9 (by decide)) (fun _ => ?_)
      refine lv_iconst (v := (-1)) hx hb dX11_back_21 (by decide) ?_
      exact W.iret (v := (-1)) hx hb hr (fun t ht hW => ⟨(-1), rfl, rfl, ht⟩) (fun _ h9 => absurd h9 List.not_mem_nil) dX11_back_22
  · refine lv_if_eq (tgt := 21) hx hb dX11_back_9 (by decide) (fun _ => ?_) (fun h9 => absurd h9 (by decide))
    refine lv_iconst (v := (-1)) hx hb dX11_back_21 (by decide) ?_
    exact W.iret (v := (-1)) hx hb hr (fun t ht hW => ⟨(-1), rfl, rfl, ht⟩) (fun _ h9 => absurd h9 List.not_mem_nil) dX11_back_22
