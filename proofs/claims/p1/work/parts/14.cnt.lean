set_option maxHeartbeats 4000000 in
set_option maxRecDepth 100000 in
theorem c_X2_bitsIn (l : Launch) (G : va_G) (k : Nat → ClassId) (sa : Nat → Nat) (a : Nat) (a0 : Nat) (a1 : Nat) (a2 : Nat) (a3 : Nat) (n : Int32) : Met l yX2_bitsIn vs_c_X2_bitsIn ({ frames := 0, cells := 0, slots := 0, locals := 0 } : Room) (gR G k sa [.ref a, .int n] [(a, .inr (2, [.int 0, .int 0, .long 0, .ref a0, .ref a1, .ref a2, .ref a3]))]) (vp_Si (fun r => r = 0)) 0 0 (fun _ => False) := by
  refine gz_metR (cc := cX2_bitsIn) (maxL := 4) (ret := (some .int)) (by decide) rfl (Nat.le_of_ble_eq_true rfl) ?_
  intro p_ e_ s_ m below_ meth_ c_ ls hx hb hr hml hts hown hlocks hP hE hl
  have hl : lv_has ls 4 [(0, .ref a), (1, .int n)] := hl
  refine lv_iconst (v := 0) hx hb dX2_bitsIn_0 (by decide) ?_
  refine lv_istore_n (lv' := [(2, .int 0), (0, .ref a), (1, .int n)]) hx hb dX2_bitsIn_1 rfl hl (by decide) rfl (fun ls hl => ?_)
  refine lv_iconst (v := 0) hx hb dX2_bitsIn_2 (by decide) ?_
  refine lv_istore_n (lv' := [(3, .int 0), (2, .int 0), (0, .ref a), (1, .int n)]) hx hb dX2_bitsIn_3 rfl hl (by decide) rfl (fun ls hl => ?_)
  refine lv_iload_n hx hb dX2_bitsIn_4 rfl (lv_at hl 0 rfl) ?_
  refine lv_aload_n hx hb dX2_bitsIn_5 rfl (lv_at hl 2 rfl) ?_
  refine va_get (D := G) (ci := 2) (v := .int 0) (C := RX2) (T := TX2) (N := 7) hx hb hts j_c_X2_bitsIn_2 hown hE.K hP 0 rfl rfl 0 (by decide) (hts (.fieldLink RX2 9 "GossamerGate$Day" "people" "I") (List.mem_cons_of_mem _ (List.mem_append_left _ (List.mem_of_getElem? (i := 0) rfl)))) (fun _ h9 => h9) rfl dX2_bitsIn_6 ?_
  refine lv_icmp_ge (tgt := 34) hx hb dX2_bitsIn_9 (by decide) (fun _ => ?_) (fun h9 => absurd h9 (by decide))
  refine lv_iload_n hx hb dX2_bitsIn_34 rfl (lv_at hl 1 rfl) ?_
  exact W.iret (v := 0) hx hb hr (fun t ht hW => ⟨0, rfl, rfl, ht⟩) (fun _ h9 => absurd h9 List.not_mem_nil) dX2_bitsIn_35
set_option maxHeartbeats 4000000 in
set_option maxRecDepth 100000 in
theorem c_X2_sumOf (l : Launch) (G : va_G) (k : Nat → ClassId) (sa : Nat → Nat) (a : Nat) (a0 : Nat) (a1 : Nat) (a2 : Nat) (a3 : Nat) (r : Nat) : Met l yX2_sumOf vs_c_X2_sumOf ({ frames := 0, cells := 0, slots := 0, locals := 0 } : Room) (gR G k sa [.ref a, .ref r] [(a, .inr (2, [.int 0, .int 0, .long 0, .ref a0, .ref a1, .ref a2, .ref a3]))]) (vp_Si (fun r => r = 0)) 0 0 (fun _ => False) := by
  refine gz_metR (cc := cX2_sumOf) (maxL := 4) (ret := (some .int)) (by decide) rfl (Nat.le_of_ble_eq_true rfl) ?_
  intro p_ e_ s_ m below_ meth_ c_ ls hx hb hr hml hts hown hlocks hP hE hl
  have hl : lv_has ls 4 [(0, .ref a), (1, .ref r)] := hl
  refine lv_iconst (v := 0) hx hb dX2_sumOf_0 (by decide) ?_
  refine lv_istore_n (lv' := [(2, .int 0), (0, .ref a), (1, .ref r)]) hx hb dX2_sumOf_1 rfl hl (by decide) rfl (fun ls hl => ?_)
  refine lv_iconst (v := 0) hx hb dX2_sumOf_2 (by decide) ?_
  refine lv_istore_n (lv' := [(3, .int 0), (2, .int 0), (0, .ref a), (1, .ref r)]) hx hb dX2_sumOf_3 rfl hl (by decide) rfl (fun ls hl => ?_)
  refine lv_iload_n hx hb dX2_sumOf_4 rfl (lv_at hl 0 rfl) ?_
  refine lv_aload_n hx hb dX2_sumOf_5 rfl (lv_at hl 2 rfl) ?_
  refine va_get (D := G) (ci := 2) (v := .int 0) (C := RX2) (T := TX2) (N := 7) hx hb hts j_c_X2_sumOf_2 hown hE.K hP 0 rfl rfl 0 (by decide) (hts (.fieldLink RX2 9 "GossamerGate$Day" "people" "I") (List.mem_cons_of_mem _ (List.mem_append_left _ (List.mem_of_getElem? (i := 0) rfl)))) (fun _ h9 => h9) rfl dX2_sumOf_6 ?_
  refine lv_icmp_ge (tgt := 30) hx hb dX2_sumOf_9 (by decide) (fun _ => ?_) (fun h9 => absurd h9 (by decide))
  refine lv_iload_n hx hb dX2_sumOf_30 rfl (lv_at hl 1 rfl) ?_
  exact W.iret (v := 0) hx hb hr (fun t ht hW => ⟨0, rfl, rfl, ht⟩) (fun _ h9 => absurd h9 List.not_mem_nil) dX2_sumOf_31
set_option maxHeartbeats 4000000 in
set_option maxRecDepth 100000 in
theorem c_bitCount0 (l : Launch) (G : va_G) (k : Nat → ClassId) (sa : Nat → Nat) : Met l yJ13_bitCount_95d88 vs_c_bitCount0 ({ frames := 0, cells := 0, slots := 0, locals := 0 } : Room) (gR G k sa [.long 0] []) (vp_Si (fun r => r = 0)) 0 0 (fun _ => False) := by
  refine gz_metR (cc := cJ13_bitCount_95d88) (maxL := 2) (ret := (some .int)) (by decide) rfl (Nat.le_of_ble_eq_true rfl) ?_
  intro p_ e_ s_ m below_ meth_ c_ ls hx hb hr hml hts hown hlocks hP hE hl
  have hl : lv_has ls 2 [(0, .long 0)] := hl
  refine lv_lload_n hx hb dJ13_bitCount_95d88_0 rfl (lv_at hl 0 rfl) ?_
  refine lv_lload_n hx hb dJ13_bitCount_95d88_1 rfl (lv_at hl 0 rfl) ?_
  refine lv_iconst (v := 1) hx hb dJ13_bitCount_95d88_2 (by decide) ?_
  refine lv_lushr (v := 0) hx hb dJ13_bitCount_95d88_3 (by decide) ?_
  refine lv_ldc2 (v := 6148914691236517205) hx hb hown (hts (.constantLong RJ13 314 (6148914691236517205)) (List.mem_cons_of_mem _ (List.mem_append_left _ (List.mem_of_getElem? (i := 0) rfl)))) dJ13_bitCount_95d88_4 ?_
  refine lv_land hx hb dJ13_bitCount_95d88_7 ?_
  refine gz_nl (v := 0) (by decide) ?_
  refine lv_lsub hx hb dJ13_bitCount_95d88_8 ?_
  refine gz_nl (v := 0) (by decide) ?_
  refine lv_lstore_n (lv' := [(0, .long 0)]) hx hb dJ13_bitCount_95d88_9 rfl hl (by decide) rfl (fun ls hl => ?_)
  refine lv_lload_n hx hb dJ13_bitCount_95d88_10 rfl (lv_at hl 0 rfl) ?_
  refine lv_ldc2 (v := 3689348814741910323) hx hb hown (hts (.constantLong RJ13 316 (3689348814741910323)) (List.mem_cons_of_mem _ (List.mem_append_left _ (List.mem_of_getElem? (i := 1) rfl)))) dJ13_bitCount_95d88_11 ?_
  refine lv_land hx hb dJ13_bitCount_95d88_14 ?_
  refine gz_nl (v := 0) (by decide) ?_
  refine lv_lload_n hx hb dJ13_bitCount_95d88_15 rfl (lv_at hl 0 rfl) ?_
  refine lv_iconst (v := 2) hx hb dJ13_bitCount_95d88_16 (by decide) ?_
  refine lv_lushr (v := 0) hx hb dJ13_bitCount_95d88_17 (by decide) ?_
  refine lv_ldc2 (v := 3689348814741910323) hx hb hown (hts (.constantLong RJ13 316 (3689348814741910323)) (List.mem_cons_of_mem _ (List.mem_append_left _ (List.mem_of_getElem? (i := 1) rfl)))) dJ13_bitCount_95d88_18 ?_
  refine lv_land hx hb dJ13_bitCount_95d88_21 ?_
  refine gz_nl (v := 0) (by decide) ?_
  refine lv_ladd hx hb dJ13_bitCount_95d88_22 ?_
  refine gz_nl (v := 0) (by decide) ?_
  refine lv_lstore_n (lv' := [(0, .long 0)]) hx hb dJ13_bitCount_95d88_23 rfl hl (by decide) rfl (fun ls hl => ?_)
  refine lv_lload_n hx hb dJ13_bitCount_95d88_24 rfl (lv_at hl 0 rfl) ?_
  refine lv_lload_n hx hb dJ13_bitCount_95d88_25 rfl (lv_at hl 0 rfl) ?_
  refine lv_iconst (v := 4) hx hb dJ13_bitCount_95d88_26 (by decide) ?_
  refine lv_lushr (v := 0) hx hb dJ13_bitCount_95d88_27 (by decide) ?_
  refine lv_ladd hx hb dJ13_bitCount_95d88_28 ?_
  refine gz_nl (v := 0) (by decide) ?_
  refine lv_ldc2 (v := 1085102592571150095) hx hb hown (hts (.constantLong RJ13 318 (1085102592571150095)) (List.mem_cons_of_mem _ (List.mem_append_left _ (List.mem_of_getElem? (i := 2) rfl)))) dJ13_bitCount_95d88_29 ?_
  refine lv_land hx hb dJ13_bitCount_95d88_32 ?_
  refine gz_nl (v := 0) (by decide) ?_
  refine lv_lstore_n (lv' := [(0, .long 0)]) hx hb dJ13_bitCount_95d88_33 rfl hl (by decide) rfl (fun ls hl => ?_)
  refine lv_lload_n hx hb dJ13_bitCount_95d88_34 rfl (lv_at hl 0 rfl) ?_
  refine lv_lload_n hx hb dJ13_bitCount_95d88_35 rfl (lv_at hl 0 rfl) ?_
  refine lv_bipush (v := 8) hx hb dJ13_bitCount_95d88_36 (by decide) ?_
  refine lv_lushr (v := 0) hx hb dJ13_bitCount_95d88_38 (by decide) ?_
  refine lv_ladd hx hb dJ13_bitCount_95d88_39 ?_
  refine gz_nl (v := 0) (by decide) ?_
  refine lv_lstore_n (lv' := [(0, .long 0)]) hx hb dJ13_bitCount_95d88_40 rfl hl (by decide) rfl (fun ls hl => ?_)
  refine lv_lload_n hx hb dJ13_bitCount_95d88_41 rfl (lv_at hl 0 rfl) ?_
  refine lv_lload_n hx hb dJ13_bitCount_95d88_42 rfl (lv_at hl 0 rfl) ?_
  refine lv_bipush (v := 16) hx hb dJ13_bitCount_95d88_43 (by decide) ?_
  refine lv_lushr (v := 0) hx hb dJ13_bitCount_95d88_45 (by decide) ?_
  refine lv_ladd hx hb dJ13_bitCount_95d88_46 ?_
  refine gz_nl (v := 0) (by decide) ?_
  refine lv_lstore_n (lv' := [(0, .long 0)]) hx hb dJ13_bitCount_95d88_47 rfl hl (by decide) rfl (fun ls hl => ?_)
  refine lv_lload_n hx hb dJ13_bitCount_95d88_48 rfl (lv_at hl 0 rfl) ?_
  refine lv_lload_n hx hb dJ13_bitCount_95d88_49 rfl (lv_at hl 0 rfl) ?_
  refine lv_bipush (v := 32) hx hb dJ13_bitCount_95d88_50 (by decide) ?_
  refine lv_lushr (v := 0) hx hb dJ13_bitCount_95d88_52 (by decide) ?_
  refine lv_ladd hx hb dJ13_bitCount_95d88_53 ?_
  refine gz_nl (v := 0) (by decide) ?_
  refine lv_lstore_n (lv' := [(0, .long 0)]) hx hb dJ13_bitCount_95d88_54 rfl hl (by decide) rfl (fun ls hl => ?_)
  refine lv_lload_n hx hb dJ13_bitCount_95d88_55 rfl (lv_at hl 0 rfl) ?_
  refine lv_l2i (v := 0) hx hb dJ13_bitCount_95d88_56 (by decide) ?_
  refine lv_bipush (v := 127) hx hb dJ13_bitCount_95d88_57 (by decide) ?_
  refine lv_iand hx hb dJ13_bitCount_95d88_59 ?_
  refine gz_ni (v := 0) (by decide) ?_
  exact W.iret (v := 0) hx hb hr (fun t ht hW => ⟨0, rfl, rfl, ht⟩) (fun _ h9 => absurd h9 List.not_mem_nil) dJ13_bitCount_95d88_60
set_option maxHeartbeats 4000000 in
set_option maxRecDepth 100000 in
theorem c_X10_count (l : Launch) (G : va_G) (k : Nat → ClassId) (sa : Nat → Nat) (h0 : Nat) (v : Nat → Nat) (w : Nat → Nat) (a : Int32) : Met l yX10_count vs_c_X10_count ({ frames := 1, cells := 0, slots := 0, locals := 23 } : Room) (gR G k sa [.ref h0, .int a] [(h0, .inr (10, [.ref (v 0), .ref (v 1), .ref (v 2), .ref (v 3), .ref (v 4), .int 0, .ref (v 5), .ref (v 6), .ref (v 7), .ref (v 8), .ref (v 9), .ref (v 10), .ref (v 11), .ref (v 12), .ref (v 13), .int 0])), (v 5, .inr (9, [.ref (w 0), .ref (w 1), .ref (w 2), .ref (w 3), .ref (w 4), .int 0, .int 0, .int (-1), .int 0])), (w 0, .inr (0, [.int 0, .int 0, .ref (w 5), .ref (w 6), .ref (w 7), .ref (w 8)])), (w 1, .inr (2, [.int 0, .int 0, .long 0, .ref (w 13), .ref (w 14), .ref (w 15), .ref (w 16)])), (v 7, .inr (3, [.ref (v 18), .int 0, .int 0])), (v 0, .inr (7, [.ref (v 14), .int 0]))]) (vp_Si (fun r => (r = 0 ∧ (0 ≤ a.toInt ∧ a.toInt ≤ 14 ∧ ¬ a = 4)) ∨ (r = (-1) ∧ (a = 4 ∨ a.toInt < 0 ∨ 14 < a.toInt)))) 0 0 (fun _ => False) := by
  refine gz_metR (cc := cX10_count) (maxL := 3) (ret := (some .int)) (by decide) rfl (Nat.le_of_ble_eq_true rfl) ?_
  intro p_ e_ s_ m below_ meth_ c_ ls hx hb hr hml hts hown hlocks hP hE hl
  have hl : lv_has ls 3 [(0, .ref h0), (1, .int a)] := hl
  refine lv_aload_n hx hb dX10_count_0 rfl (lv_at hl 0 rfl) ?_
  refine va_get (D := G) (ci := 10) (v := .ref (v 5)) (C := RX10) (T := TX10) (N := 16) hx hb hts j_c_X10_count_10 hown hE.K hP 0 rfl rfl 6 (by decide) (hts (.fieldLink RX10 52 "GossamerGate" "world" "LGossamerGate$World;") (List.mem_cons_of_mem _ (List.mem_append_left _ (List.mem_of_getElem? (i := 0) rfl)))) (fun _ h9 => h9) rfl dX10_count_1 ?_
  refine va_get (D := G) (ci := 9) (v := .ref (w 1)) (C := RX9) (T := TX9) (N := 9) hx hb hts j_c_X10_count_9 hown hE.K hP 1 rfl rfl 1 (by decide) (hts (.fieldLink RX10 124 "GossamerGate$World" "day" "LGossamerGate$Day;") (List.mem_cons_of_mem _ (List.mem_append_left _ (List.mem_of_getElem? (i := 1) rfl)))) (fun _ h9 => h9) rfl dX10_count_4 ?_
  refine lv_astore_n (lv' := [(2, .ref (w 1)), (0, .ref h0), (1, .int a)]) hx hb dX10_count_7 rfl hl (by decide) rfl (fun ls hl => ?_)
  refine lv_iload_n hx hb dX10_count_8 rfl (lv_at hl 2 rfl) ?_
  rcases gz_tab_0_14 a with c_1 | rfl | rfl | rfl | rfl | rfl | rfl | rfl | rfl | rfl | rfl | rfl | rfl | rfl | rfl | rfl
  · refine lv_tableOut (tgt := 210) hx hb dX10_count_9 c_1 (by decide) ?_
    refine lv_iconst (v := (-1)) hx hb dX10_count_210 (by decide) ?_
    exact W.iret (v := (-1)) hx hb hr (fun t ht hW => ⟨(-1), rfl, (Or.inr ⟨rfl, Or.inr c_1⟩), ht⟩) (fun _ h9 => absurd h9 List.not_mem_nil) dX10_count_211
  · refine lv_tableIn (off := 75) (tgt := 84) hx hb dX10_count_9 (by decide) (by decide) (by decide) (by decide) ?_
    refine lv_aload_n hx hb dX10_count_84 rfl (lv_at hl 1 rfl) ?_
    refine va_get (D := G) (ci := 10) (v := .ref (v 5)) (C := RX10) (T := TX10) (N := 16) hx hb hts j_c_X10_count_10 hown hE.K hP 0 rfl rfl 6 (by decide) (hts (.fieldLink RX10 52 "GossamerGate" "world" "LGossamerGate$World;") (List.mem_cons_of_mem _ (List.mem_append_left _ (List.mem_of_getElem? (i := 0) rfl)))) (fun _ h9 => h9) rfl dX10_count_85 ?_
    refine va_get (D := G) (ci := 9) (v := .ref (w 0)) (C := RX9) (T := TX9) (N := 9) hx hb hts j_c_X10_count_9 hown hE.K hP 1 rfl rfl 0 (by decide) (hts (.fieldLink RX10 69 "GossamerGate$World" "land" "LGossamerGate$Country;") (List.mem_cons_of_mem _ (List.mem_append_left _ (List.mem_of_getElem? (i := 2) rfl)))) (fun _ h9 => h9) rfl dX10_count_88 ?_
    refine va_get (D := G) (ci := 0) (v := .int 0) (C := RX0) (T := TX0) (N := 6) hx hb hts j_c_X10_count_0 hown hE.K hP 2 rfl rfl 0 (by decide) (hts (.fieldLink RX10 177 "GossamerGate$Country" "side" "I") (List.mem_cons_of_mem _ (List.mem_append_left _ (List.mem_of_getElem? (i := 3) rfl)))) (fun _ h9 => h9) rfl dX10_count_91 ?_
    exact W.iret (v := 0) hx hb hr (fun t ht hW => ⟨0, rfl, (Or.inl ⟨rfl, by decide⟩), ht⟩) (fun _ h9 => absurd h9 List.not_mem_nil) dX10_count_94
  · refine lv_tableIn (off := 86) (tgt := 95) hx hb dX10_count_9 (by decide) (by decide) (by decide) (by decide) ?_
    refine lv_aload_n hx hb dX10_count_95 rfl (lv_at hl 1 rfl) ?_
    refine vp_callSi (W.runV (As := []) (rest := []) ⟨hx, hb, hml, hown, hts⟩ (c_X10_isTold l G k sa h0 v w) (cwV 0 hts g_c_X10_count_158_c_X10_isTold rfl rfl rfl (by decide +kernel) ⟨(Nat.le_of_ble_eq_true rfl), (Nat.le_of_ble_eq_true rfl)⟩) ⟨gR.bl, va_recv hE.K hP (ci := 10) (q0 := 0) rfl rfl, (gR.pre (wc := [(h0, .inr (10, [.ref (v 0), .ref (v 1), .ref (v 2), .ref (v 3), .ref (v 4), .int 0, .ref (v 5), .ref (v 6), .ref (v 7), .ref (v 8), .ref (v 9), .ref (v 10), .ref (v 11), .ref (v 12), .ref (v 13), .int 0])), (v 5, .inr (9, [.ref (w 0), .ref (w 1), .ref (w 2), .ref (w 3), .ref (w 4), .int 0, .int 0, .int (-1), .int 0])), (w 0, .inr (0, [.int 0, .int 0, .ref (w 5), .ref (w 6), .ref (w 7), .ref (w 8)]))]) hE hP [0, 1, 2] rfl)⟩ rfl rfl hl.1 rfl (lv_room (Nat.le_of_ble_eq_true rfl)) dX10_count_96 ⟨(Nat.le_of_ble_eq_true rfl), (Nat.le_of_ble_eq_true rfl)⟩) (fun r_2 hr_2 => ?_)
    obtain rfl : r_2 = 0 := hr_2
    refine lv_if_eq (tgt := 115) hx hb dX10_count_99 (by decide) (fun _ => ?_) (fun h9 => absurd h9 (by decide))
    refine lv_iconst (v := 0) hx hb dX10_count_115 (by decide) ?_
    exact W.iret (v := 0) hx hb hr (fun t ht hW => ⟨0, rfl, (Or.inl ⟨rfl, by decide⟩), ht⟩) (fun _ h9 => absurd h9 List.not_mem_nil) dX10_count_116
  · refine lv_tableIn (off := 108) (tgt := 117) hx hb dX10_count_9 (by decide) (by decide) (by decide) (by decide) ?_
    refine lv_aload_n hx hb dX10_count_117 rfl (lv_at hl 0 rfl) ?_
    refine va_get (D := G) (ci := 2) (v := .int 0) (C := RX2) (T := TX2) (N := 7) hx hb hts j_c_X10_count_2 hown hE.K hP 3 rfl rfl 0 (by decide) (hts (.fieldLink RX10 128 "GossamerGate$Day" "people" "I") (List.mem_cons_of_mem _ (List.mem_append_left _ (List.mem_of_getElem? (i := 8) rfl)))) (fun _ h9 => h9) rfl dX10_count_118 ?_
    exact W.iret (v := 0) hx hb hr (fun t ht hW => ⟨0, rfl, (Or.inl ⟨rfl, by decide⟩), ht⟩) (fun _ h9 => absurd h9 List.not_mem_nil) dX10_count_121
  · refine lv_tableIn (off := 113) (tgt := 122) hx hb dX10_count_9 (by decide) (by decide) (by decide) (by decide) ?_
    refine lv_aload_n hx hb dX10_count_122 rfl (lv_at hl 1 rfl) ?_
    refine va_get (D := G) (ci := 10) (v := .int 0) (C := RX10) (T := TX10) (N := 16) hx hb hts j_c_X10_count_10 hown hE.K hP 0 rfl rfl 5 (by decide) (hts (.fieldLink RX10 45 "GossamerGate" "ruleCount" "I") (List.mem_cons_of_mem _ (List.mem_append_left _ (List.mem_of_getElem? (i := 9) rfl)))) (fun _ h9 => h9) rfl dX10_count_123 ?_
    exact W.iret (v := 0) hx hb hr (fun t ht hW => ⟨0, rfl, (Or.inl ⟨rfl, by decide⟩), ht⟩) (fun _ h9 => absurd h9 List.not_mem_nil) dX10_count_126
  · refine lv_tableIn (off := 118) (tgt := 127) hx hb dX10_count_9 (by decide) (by decide) (by decide) (by decide) ?_
    refine lv_aload_n hx hb dX10_count_127 rfl (lv_at hl 1 rfl) ?_
    refine va_get (D := G) (ci := 10) (v := .ref (v 5)) (C := RX10) (T := TX10) (N := 16) hx hb hts j_c_X10_count_10 hown hE.K hP 0 rfl rfl 6 (by decide) (hts (.fieldLink RX10 52 "GossamerGate" "world" "LGossamerGate$World;") (List.mem_cons_of_mem _ (List.mem_append_left _ (List.mem_of_getElem? (i := 0) rfl)))) (fun _ h9 => h9) rfl dX10_count_128 ?_
    refine va_get (D := G) (ci := 9) (v := .int (-1)) (C := RX9) (T := TX9) (N := 9) hx hb hts j_c_X10_count_9 hown hE.K hP 1 rfl rfl 7 (by decide) (hts (.fieldLink RX10 136 "GossamerGate$World" "inForce" "I") (List.mem_cons_of_mem _ (List.mem_append_left _ (List.mem_of_getElem? (i := 10) rfl)))) (fun _ h9 => h9) rfl dX10_count_131 ?_
    exact W.iret (v := (-1)) hx hb hr (fun t ht hW => ⟨(-1), rfl, (Or.inr ⟨rfl, by decide⟩), ht⟩) (fun _ h9 => absurd h9 List.not_mem_nil) dX10_count_134
  · refine lv_tableIn (off := 126) (tgt := 135) hx hb dX10_count_9 (by decide) (by decide) (by decide) (by decide) ?_
    refine lv_aload_n hx hb dX10_count_135 rfl (lv_at hl 0 rfl) ?_
    refine va_get (D := G) (ci := 2) (v := .int 0) (C := RX2) (T := TX2) (N := 7) hx hb hts j_c_X10_count_2 hown hE.K hP 3 rfl rfl 1 (by decide) (hts (.fieldLink RX10 180 "GossamerGate$Day" "hour" "I") (List.mem_cons_of_mem _ (List.mem_append_left _ (List.mem_of_getElem? (i := 11) rfl)))) (fun _ h9 => h9) rfl dX10_count_136 ?_
    exact W.iret (v := 0) hx hb hr (fun t ht hW => ⟨0, rfl, (Or.inl ⟨rfl, by decide⟩), ht⟩) (fun _ h9 => absurd h9 List.not_mem_nil) dX10_count_139
  · refine lv_tableIn (off := 131) (tgt := 140) hx hb dX10_count_9 (by decide) (by decide) (by decide) (by decide) ?_
    refine lv_aload_n hx hb dX10_count_140 rfl (lv_at hl 0 rfl) ?_
    refine lv_iconst (v := 1) hx hb dX10_count_141 (by decide) ?_
    refine vp_callSi (W.runV (As := [.int 1]) (rest := []) ⟨hx, hb, hml, hown, hts⟩ (c_X2_bitsIn l G k sa (w 1) (w 13) (w 14) (w 15) (w 16) 1) (cwV 1 hts g_c_X10_count_183_c_X2_bitsIn rfl rfl rfl (by decide +kernel) ⟨(Nat.le_of_ble_eq_true rfl), (Nat.le_of_ble_eq_true rfl)⟩) ⟨gR.bl, va_recv hE.K hP (ci := 2) (q0 := 3) rfl rfl, (gR.pre (wc := [((w 1), .inr (2, [.int 0, .int 0, .long 0, .ref (w 13), .ref (w 14), .ref (w 15), .ref (w 16)]))]) hE hP [3] rfl)⟩ rfl rfl hl.1 rfl (lv_room (Nat.le_of_ble_eq_true rfl)) dX10_count_142 ⟨(Nat.le_of_ble_eq_true rfl), (Nat.le_of_ble_eq_true rfl)⟩) (fun r_3 hr_3 => ?_)
    obtain rfl : r_3 = 0 := hr_3
    exact W.iret (v := 0) hx hb hr (fun t ht hW => ⟨0, rfl, (Or.inl ⟨rfl, by decide⟩), ht⟩) (fun _ h9 => absurd h9 List.not_mem_nil) dX10_count_145
  · refine lv_tableIn (off := 137) (tgt := 146) hx hb dX10_count_9 (by decide) (by decide) (by decide) (by decide) ?_
    refine lv_aload_n hx hb dX10_count_146 rfl (lv_at hl 0 rfl) ?_
    refine lv_iconst (v := 2) hx hb dX10_count_147 (by decide) ?_
    refine vp_callSi (W.runV (As := [.int 2]) (rest := []) ⟨hx, hb, hml, hown, hts⟩ (c_X2_bitsIn l G k sa (w 1) (w 13) (w 14) (w 15) (w 16) 2) (cwV 1 hts g_c_X10_count_183_c_X2_bitsIn rfl rfl rfl (by decide +kernel) ⟨(Nat.le_of_ble_eq_true rfl), (Nat.le_of_ble_eq_true rfl)⟩) ⟨gR.bl, va_recv hE.K hP (ci := 2) (q0 := 3) rfl rfl, (gR.pre (wc := [((w 1), .inr (2, [.int 0, .int 0, .long 0, .ref (w 13), .ref (w 14), .ref (w 15), .ref (w 16)]))]) hE hP [3] rfl)⟩ rfl rfl hl.1 rfl (lv_room (Nat.le_of_ble_eq_true rfl)) dX10_count_148 ⟨(Nat.le_of_ble_eq_true rfl), (Nat.le_of_ble_eq_true rfl)⟩) (fun r_4 hr_4 => ?_)
    obtain rfl : r_4 = 0 := hr_4
    exact W.iret (v := 0) hx hb hr (fun t ht hW => ⟨0, rfl, (Or.inl ⟨rfl, by decide⟩), ht⟩) (fun _ h9 => absurd h9 List.not_mem_nil) dX10_count_151
  · refine lv_tableIn (off := 143) (tgt := 152) hx hb dX10_count_9 (by decide) (by decide) (by decide) (by decide) ?_
    refine lv_aload_n hx hb dX10_count_152 rfl (lv_at hl 0 rfl) ?_
    refine lv_aload_n hx hb dX10_count_153 rfl (lv_at hl 0 rfl) ?_
    refine va_get (D := G) (ci := 2) (v := .ref (w 14)) (C := RX2) (T := TX2) (N := 7) hx hb hts j_c_X10_count_2 hown hE.K hP 3 rfl rfl 4 (by decide) (hts (.fieldLink RX10 146 "GossamerGate$Day" "thread" "[I") (List.mem_cons_of_mem _ (List.mem_append_left _ (List.mem_of_getElem? (i := 16) rfl)))) (fun _ h9 => h9) rfl dX10_count_154 ?_
    refine vp_callSi (W.runV (As := [.ref (w 14)]) (rest := []) ⟨hx, hb, hml, hown, hts⟩ (c_X2_sumOf l G k sa (w 1) (w 13) (w 14) (w 15) (w 16) (w 14)) (cwV 1 hts g_c_X10_count_187_c_X2_sumOf rfl rfl rfl (by decide +kernel) ⟨(Nat.le_of_ble_eq_true rfl), (Nat.le_of_ble_eq_true rfl)⟩) ⟨gR.bl, va_recv hE.K hP (ci := 2) (q0 := 3) rfl rfl, (gR.pre (wc := [((w 1), .inr (2, [.int 0, .int 0, .long 0, .ref (w 13), .ref (w 14), .ref (w 15), .ref (w 16)]))]) hE hP [3] rfl)⟩ rfl rfl hl.1 rfl (lv_room (Nat.le_of_ble_eq_true rfl)) dX10_count_157 ⟨(Nat.le_of_ble_eq_true rfl), (Nat.le_of_ble_eq_true rfl)⟩) (fun r_5 hr_5 => ?_)
    obtain rfl : r_5 = 0 := hr_5
    exact W.iret (v := 0) hx hb hr (fun t ht hW => ⟨0, rfl, (Or.inl ⟨rfl, by decide⟩), ht⟩) (fun _ h9 => absurd h9 List.not_mem_nil) dX10_count_160
  · refine lv_tableIn (off := 152) (tgt := 161) hx hb dX10_count_9 (by decide) (by decide) (by decide) (by decide) ?_
    refine lv_aload_n hx hb dX10_count_161 rfl (lv_at hl 0 rfl) ?_
    refine lv_aload_n hx hb dX10_count_162 rfl (lv_at hl 0 rfl) ?_
    refine va_get (D := G) (ci := 2) (v := .ref (w 16)) (C := RX2) (T := TX2) (N := 7) hx hb hts j_c_X10_count_2 hown hE.K hP 3 rfl rfl 6 (by decide) (hts (.fieldLink RX10 155 "GossamerGate$Day" "tangled" "[I") (List.mem_cons_of_mem _ (List.mem_append_left _ (List.mem_of_getElem? (i := 20) rfl)))) (fun _ h9 => h9) rfl dX10_count_163 ?_
    refine vp_callSi (W.runV (As := [.ref (w 16)]) (rest := []) ⟨hx, hb, hml, hown, hts⟩ (c_X2_sumOf l G k sa (w 1) (w 13) (w 14) (w 15) (w 16) (w 16)) (cwV 1 hts g_c_X10_count_187_c_X2_sumOf rfl rfl rfl (by decide +kernel) ⟨(Nat.le_of_ble_eq_true rfl), (Nat.le_of_ble_eq_true rfl)⟩) ⟨gR.bl, va_recv hE.K hP (ci := 2) (q0 := 3) rfl rfl, (gR.pre (wc := [((w 1), .inr (2, [.int 0, .int 0, .long 0, .ref (w 13), .ref (w 14), .ref (w 15), .ref (w 16)]))]) hE hP [3] rfl)⟩ rfl rfl hl.1 rfl (lv_room (Nat.le_of_ble_eq_true rfl)) dX10_count_166 ⟨(Nat.le_of_ble_eq_true rfl), (Nat.le_of_ble_eq_true rfl)⟩) (fun r_6 hr_6 => ?_)
    obtain rfl : r_6 = 0 := hr_6
    exact W.iret (v := 0) hx hb hr (fun t ht hW => ⟨0, rfl, (Or.inl ⟨rfl, by decide⟩), ht⟩) (fun _ h9 => absurd h9 List.not_mem_nil) dX10_count_169
  · refine lv_tableIn (off := 161) (tgt := 170) hx hb dX10_count_9 (by decide) (by decide) (by decide) (by decide) ?_
    refine lv_aload_n hx hb dX10_count_170 rfl (lv_at hl 0 rfl) ?_
    refine va_get (D := G) (ci := 2) (v := .long 0) (C := RX2) (T := TX2) (N := 7) hx hb hts j_c_X10_count_2 hown hE.K hP 3 rfl rfl 2 (by decide) (hts (.fieldLink RX10 191 "GossamerGate$Day" "gates" "J") (List.mem_cons_of_mem _ (List.mem_append_left _ (List.mem_of_getElem? (i := 21) rfl)))) (fun _ h9 => h9) rfl dX10_count_171 ?_
    refine vp_callSi (W.runS (As := [.long 0]) (rest := []) ⟨hx, hb, hml, hown, hts⟩ (c_bitCount0 l G k sa ) (va_cwS 1 hts g_c_X10_count_195_c_bitCount0 rfl rfl rfl (by decide +kernel) ⟨(Nat.le_of_ble_eq_true rfl), (Nat.le_of_ble_eq_true rfl)⟩) ⟨gR.bl, (gR.pre (wc := []) hE hP [] rfl)⟩ rfl rfl hl.1 rfl (lv_room (Nat.le_of_ble_eq_true rfl)) dX10_count_174 ⟨(Nat.le_of_ble_eq_true rfl), (Nat.le_of_ble_eq_true rfl)⟩) (fun r_7 hr_7 => ?_)
    obtain rfl : r_7 = 0 := hr_7
    exact W.iret (v := 0) hx hb hr (fun t ht hW => ⟨0, rfl, (Or.inl ⟨rfl, by decide⟩), ht⟩) (fun _ h9 => absurd h9 List.not_mem_nil) dX10_count_177
  · refine lv_tableIn (off := 169) (tgt := 178) hx hb dX10_count_9 (by decide) (by decide) (by decide) (by decide) ?_
    refine lv_aload_n hx hb dX10_count_178 rfl (lv_at hl 1 rfl) ?_
    refine va_get (D := G) (ci := 10) (v := .ref (v 5)) (C := RX10) (T := TX10) (N := 16) hx hb hts j_c_X10_count_10 hown hE.K hP 0 rfl rfl 6 (by decide) (hts (.fieldLink RX10 52 "GossamerGate" "world" "LGossamerGate$World;") (List.mem_cons_of_mem _ (List.mem_append_left _ (List.mem_of_getElem? (i := 0) rfl)))) (fun _ h9 => h9) rfl dX10_count_179 ?_
    refine va_get (D := G) (ci := 9) (v := .int 0) (C := RX9) (T := TX9) (N := 9) hx hb hts j_c_X10_count_9 hown hE.K hP 1 rfl rfl 5 (by decide) (hts (.fieldLink RX10 201 "GossamerGate$World" "notes" "I") (List.mem_cons_of_mem _ (List.mem_append_left _ (List.mem_of_getElem? (i := 25) rfl)))) (fun _ h9 => h9) rfl dX10_count_182 ?_
    exact W.iret (v := 0) hx hb hr (fun t ht hW => ⟨0, rfl, (Or.inl ⟨rfl, by decide⟩), ht⟩) (fun _ h9 => absurd h9 List.not_mem_nil) dX10_count_185
  · refine lv_tableIn (off := 177) (tgt := 186) hx hb dX10_count_9 (by decide) (by decide) (by decide) (by decide) ?_
    refine lv_aload_n hx hb dX10_count_186 rfl (lv_at hl 1 rfl) ?_
    refine va_get (D := G) (ci := 10) (v := .ref (v 7)) (C := RX10) (T := TX10) (N := 16) hx hb hts j_c_X10_count_10 hown hE.K hP 0 rfl rfl 8 (by decide) (hts (.fieldLink RX10 63 "GossamerGate" "history" "LGossamerGate$History;") (List.mem_cons_of_mem _ (List.mem_append_left _ (List.mem_of_getElem? (i := 26) rfl)))) (fun _ h9 => h9) rfl dX10_count_187 ?_
    refine va_get (D := G) (ci := 3) (v := .int 0) (C := RX3) (T := TX3) (N := 3) hx hb hts j_c_X10_count_3 hown hE.K hP 4 rfl rfl 2 (by decide) (hts (.fieldLink RX10 204 "GossamerGate$History" "size" "I") (List.mem_cons_of_mem _ (List.mem_append_left _ (List.mem_of_getElem? (i := 27) rfl)))) (fun _ h9 => h9) rfl dX10_count_190 ?_
    exact W.iret (v := 0) hx hb hr (fun t ht hW => ⟨0, rfl, (Or.inl ⟨rfl, by decide⟩), ht⟩) (fun _ h9 => absurd h9 List.not_mem_nil) dX10_count_193
  · refine lv_tableIn (off := 185) (tgt := 194) hx hb dX10_count_9 (by decide) (by decide) (by decide) (by decide) ?_
    refine lv_aload_n hx hb dX10_count_194 rfl (lv_at hl 1 rfl) ?_
    refine va_get (D := G) (ci := 10) (v := .ref (v 5)) (C := RX10) (T := TX10) (N := 16) hx hb hts j_c_X10_count_10 hown hE.K hP 0 rfl rfl 6 (by decide) (hts (.fieldLink RX10 52 "GossamerGate" "world" "LGossamerGate$World;") (List.mem_cons_of_mem _ (List.mem_append_left _ (List.mem_of_getElem? (i := 0) rfl)))) (fun _ h9 => h9) rfl dX10_count_195 ?_
    refine va_get (D := G) (ci := 9) (v := .int 0) (C := RX9) (T := TX9) (N := 9) hx hb hts j_c_X10_count_9 hown hE.K hP 1 rfl rfl 6 (by decide) (hts (.fieldLink RX10 207 "GossamerGate$World" "x" "I") (List.mem_cons_of_mem _ (List.mem_append_left _ (List.mem_of_getElem? (i := 28) rfl)))) (fun _ h9 => h9) rfl dX10_count_198 ?_
    exact W.iret (v := 0) hx hb hr (fun t ht hW => ⟨0, rfl, (Or.inl ⟨rfl, by decide⟩), ht⟩) (fun _ h9 => absurd h9 List.not_mem_nil) dX10_count_201
  · refine lv_tableIn (off := 193) (tgt := 202) hx hb dX10_count_9 (by decide) (by decide) (by decide) (by decide) ?_
    refine lv_aload_n hx hb dX10_count_202 rfl (lv_at hl 1 rfl) ?_
    refine va_get (D := G) (ci := 10) (v := .ref (v 0)) (C := RX10) (T := TX10) (N := 16) hx hb hts j_c_X10_count_10 hown hE.K hP 0 rfl rfl 0 (by decide) (hts (.fieldLink RX10 10 "GossamerGate" "tape" "LGossamerGate$Tape;") (List.mem_cons_of_mem _ (List.mem_append_left _ (List.mem_of_getElem? (i := 29) rfl)))) (fun _ h9 => h9) rfl dX10_count_203 ?_
    refine va_get (D := G) (ci := 7) (v := .int 0) (C := RX7) (T := TX7) (N := 2) hx hb hts j_c_X10_count_7 hown hE.K hP 5 rfl rfl 1 (by decide) (hts (.fieldLink RX10 107 "GossamerGate$Tape" "length" "I") (List.mem_cons_of_mem _ (List.mem_append_left _ (List.mem_of_getElem? (i := 30) rfl)))) (fun _ h9 => h9) rfl dX10_count_206 ?_
    exact W.iret (v := 0) hx hb hr (fun t ht hW => ⟨0, rfl, (Or.inl ⟨rfl, by decide⟩), ht⟩) (fun _ h9 => absurd h9 List.not_mem_nil) dX10_count_209
