set_option maxHeartbeats 4000000 in
set_option maxRecDepth 100000 in
/-- Day.clear -/
theorem c_X2_clear (l : Launch) (G : va_G) (k : Nat → ClassId) (sa : Nat → Nat) (sz : Nat) (a : Nat) (a0 : Nat) (a1 : Nat) (a2 : Nat) (a3 : Nat) : Met l yX2_clear vs_c_X2_clear ({ frames := 0, cells := 0, slots := 0, locals := 0 } : Room) (gP G k sa [.ref a] [(a, .inr (2, [.int 0, .int 0, .long 0, .ref a0, .ref a1, .ref a2, .ref a3])), (a2, .inl (k 0, 6, .inl (fun _ => 0))), (a3, .inl (k 0, 6, .inl (fun _ => 0)))] sz) (va_Qv (fun _ : Nat → Nat => True) (gO G (va_A ([(a, .inr (2, [.int 0, .int 0, .long 0, .ref a0, .ref a1, .ref a2, .ref a3])), (a2, .inl (k 0, 6, .inl (fun _ => 0))), (a3, .inl (k 0, 6, .inl (fun _ => 0)))]) sz) (fun _ => [])) (va_A ([(a, .inr (2, [.int 0, .int 0, .long 0, .ref a0, .ref a1, .ref a2, .ref a3])), (a2, .inl (k 0, 6, .inl (fun _ => 0))), (a3, .inl (k 0, 6, .inl (fun _ => 0)))]) sz)) 0 0 (va_A ([(a, .inr (2, [.int 0, .int 0, .long 0, .ref a0, .ref a1, .ref a2, .ref a3])), (a2, .inl (k 0, 6, .inl (fun _ => 0))), (a3, .inl (k 0, 6, .inl (fun _ => 0)))]) sz) := by
  refine gz_met (cc := cX2_clear) (maxL := 2) (ret := none) (by decide) rfl (Nat.le_of_ble_eq_true rfl) ?_
  intro p_ e_ s_ m below_ meth_ c_ ls hx hb hr hml hts hown hlocks hin hP hE hD hA hS
  generalize hAe : va_A ([(a, .inr (2, [.int 0, .int 0, .long 0, .ref a0, .ref a1, .ref a2, .ref a3])), (a2, .inl (k 0, 6, .inl (fun _ => 0))), (a3, .inl (k 0, 6, .inl (fun _ => 0)))]) sz = A at hD hA hS ⊢
  intro hl
  have hl : lv_has ls 2 [(0, .ref a)] := hl
  refine lv_aload_n hx hb dX2_clear_0 rfl (lv_at hl 0 rfl) ?_
  refine lv_iconst (v := 0) hx hb dX2_clear_1 (by decide) ?_
  refine va_put (D := G) (ci := 2) (v := .int 0) (ty := .int) (C := RX2) (T := TX2) (N := 7) hx hb hts j_c_X2_clear_2 tyX2 tyX2_ok nmX2 hown hE.K hP hD hS 0 rfl rfl 0 (by decide) (hts (.fieldLink RX2 9 "GossamerGate$Day" "people" "I") (List.mem_cons_of_mem _ (List.mem_append_left _ (List.mem_of_getElem? (i := 0) rfl)))) (fun _ h9 => h9) rfl (by decide +kernel) rfl rfl (Nat.le_of_ble_eq_true rfl) dX2_clear_2 (fun H locs hP hD hS => ?_)
  have hP : va_P G vwCl [(a, .inr (2, [.int 0, .int 0, .long 0, .ref a0, .ref a1, .ref a2, .ref a3])), (a2, .inl (k 0, 6, .inl (fun _ => 0))), (a3, .inl (k 0, 6, .inl (fun _ => 0)))] H := hP
  have hD : va_D A [(a, .inr (2, [.int 0, .int 0, .long 0, .ref a0, .ref a1, .ref a2, .ref a3])), (a2, .inl (k 0, 6, .inl (fun _ => 0))), (a3, .inl (k 0, 6, .inl (fun _ => 0)))] := hD
  refine lv_aload_n hx hb dX2_clear_5 rfl (lv_at hl 0 rfl) ?_
  refine lv_iconst (v := 0) hx hb dX2_clear_6 (by decide) ?_
  refine va_put (D := G) (ci := 2) (v := .int 0) (ty := .int) (C := RX2) (T := TX2) (N := 7) hx hb hts j_c_X2_clear_2 tyX2 tyX2_ok nmX2 hown hE.K hP hD hS 0 rfl rfl 1 (by decide) (hts (.fieldLink RX2 15 "GossamerGate$Day" "hour" "I") (List.mem_cons_of_mem _ (List.mem_append_left _ (List.mem_of_getElem? (i := 1) rfl)))) (fun _ h9 => h9) rfl (by decide +kernel) rfl rfl (Nat.le_of_ble_eq_true rfl) dX2_clear_7 (fun H locs hP hD hS => ?_)
  have hP : va_P G vwCl [(a, .inr (2, [.int 0, .int 0, .long 0, .ref a0, .ref a1, .ref a2, .ref a3])), (a2, .inl (k 0, 6, .inl (fun _ => 0))), (a3, .inl (k 0, 6, .inl (fun _ => 0)))] H := hP
  have hD : va_D A [(a, .inr (2, [.int 0, .int 0, .long 0, .ref a0, .ref a1, .ref a2, .ref a3])), (a2, .inl (k 0, 6, .inl (fun _ => 0))), (a3, .inl (k 0, 6, .inl (fun _ => 0)))] := hD
  refine lv_aload_n hx hb dX2_clear_10 rfl (lv_at hl 0 rfl) ?_
  refine lv_lconst (v := 0) hx hb dX2_clear_11 (by decide) ?_
  refine va_put (D := G) (ci := 2) (v := .long 0) (ty := .long) (C := RX2) (T := TX2) (N := 7) hx hb hts j_c_X2_clear_2 tyX2 tyX2_ok nmX2 hown hE.K hP hD hS 0 rfl rfl 2 (by decide) (hts (.fieldLink RX2 18 "GossamerGate$Day" "gates" "J") (List.mem_cons_of_mem _ (List.mem_append_left _ (List.mem_of_getElem? (i := 2) rfl)))) (fun _ h9 => h9) rfl (by decide +kernel) rfl rfl (Nat.le_of_ble_eq_true rfl) dX2_clear_12 (fun H locs hP hD hS => ?_)
  have hP : va_P G vwCl [(a, .inr (2, [.int 0, .int 0, .long 0, .ref a0, .ref a1, .ref a2, .ref a3])), (a2, .inl (k 0, 6, .inl (fun _ => 0))), (a3, .inl (k 0, 6, .inl (fun _ => 0)))] H := hP
  have hD : va_D A [(a, .inr (2, [.int 0, .int 0, .long 0, .ref a0, .ref a1, .ref a2, .ref a3])), (a2, .inl (k 0, 6, .inl (fun _ => 0))), (a3, .inl (k 0, 6, .inl (fun _ => 0)))] := hD
  refine lv_iconst (v := 0) hx hb dX2_clear_15 (by decide) ?_
  refine lv_istore_n (lv' := [(1, .int 0), (0, .ref a)]) hx hb dX2_clear_16 rfl hl (by decide) rfl (fun ls hl => ?_)
  refine lv_iload_n hx hb dX2_clear_17 rfl (lv_at hl 0 rfl) ?_
  refine lv_bipush (v := 6) hx hb dX2_clear_18 (by decide) ?_
  refine lv_icmp_ge (tgt := 43) hx hb dX2_clear_20 (by decide) (fun h9 => absurd h9 (by decide)) (fun _ => ?_)
  refine lv_aload_n hx hb dX2_clear_23 rfl (lv_at hl 1 rfl) ?_
  refine va_get (D := G) (ci := 2) (v := .ref a2) (C := RX2) (T := TX2) (N := 7) hx hb hts j_c_X2_clear_2 hown hE.K hP 0 rfl rfl 5 (by decide) (hts (.fieldLink RX2 29 "GossamerGate$Day" "place" "[I") (List.mem_cons_of_mem _ (List.mem_append_left _ (List.mem_of_getElem? (i := 3) rfl)))) (fun _ h9 => h9) rfl dX2_clear_24 ?_
  refine lv_iload_n hx hb dX2_clear_27 rfl (lv_at hl 0 rfl) ?_
  refine lv_iconst (v := 0) hx hb dX2_clear_28 (by decide) ?_
  refine va_iast hx hb hE.K hP hD hS 1 0 rfl rfl (gz_in (by decide)) dX2_clear_29 (fun H locs hP hD hS => ?_)
  have hP : va_P G vwCl [(a, .inr (2, [.int 0, .int 0, .long 0, .ref a0, .ref a1, .ref a2, .ref a3])), (a2, .inl (k 0, 6, .inl (upd (fun _ => 0) 0 0))), (a3, .inl (k 0, 6, .inl (fun _ => 0)))] H := hP
  have hD : va_D A [(a, .inr (2, [.int 0, .int 0, .long 0, .ref a0, .ref a1, .ref a2, .ref a3])), (a2, .inl (k 0, 6, .inl (upd (fun _ => 0) 0 0))), (a3, .inl (k 0, 6, .inl (fun _ => 0)))] := hD
  refine lv_aload_n hx hb dX2_clear_30 rfl (lv_at hl 1 rfl) ?_
  refine va_get (D := G) (ci := 2) (v := .ref a3) (C := RX2) (T := TX2) (N := 7) hx hb hts j_c_X2_clear_2 hown hE.K hP 0 rfl rfl 6 (by decide) (hts (.fieldLink RX2 32 "GossamerGate$Day" "tangled" "[I") (List.mem_cons_of_mem _ (List.mem_append_left _ (List.mem_of_getElem? (i := 4) rfl)))) (fun _ h9 => h9) rfl dX2_clear_31 ?_
  refine lv_iload_n hx hb dX2_clear_34 rfl (lv_at hl 0 rfl) ?_
  refine lv_iconst (v := 0) hx hb dX2_clear_35 (by decide) ?_
  refine va_iast hx hb hE.K hP hD hS 2 0 rfl rfl (gz_in (by decide)) dX2_clear_36 (fun H locs hP hD hS => ?_)
  have hP : va_P G vwCl [(a, .inr (2, [.int 0, .int 0, .long 0, .ref a0, .ref a1, .ref a2, .ref a3])), (a2, .inl (k 0, 6, .inl (upd (fun _ => 0) 0 0))), (a3, .inl (k 0, 6, .inl (upd (fun _ => 0) 0 0)))] H := hP
  have hD : va_D A [(a, .inr (2, [.int 0, .int 0, .long 0, .ref a0, .ref a1, .ref a2, .ref a3])), (a2, .inl (k 0, 6, .inl (upd (fun _ => 0) 0 0))), (a3, .inl (k 0, 6, .inl (upd (fun _ => 0) 0 0)))] := hD
  refine lv_iinc (v := 1) (lv' := [(1, .int 1), (0, .ref a)]) hx hb dX2_clear_37 hl (k := 0) rfl (by decide) (by decide) rfl (fun ls hl => ?_)
  refine lv_goto (tgt := 17) hx hb dX2_clear_40 (by decide) ?_
  refine lv_iload_n hx hb dX2_clear_17 rfl (lv_at hl 0 rfl) ?_
  refine lv_bipush (v := 6) hx hb dX2_clear_18 (by decide) ?_
  refine lv_icmp_ge (tgt := 43) hx hb dX2_clear_20 (by decide) (fun h9 => absurd h9 (by decide)) (fun _ => ?_)
  refine lv_aload_n hx hb dX2_clear_23 rfl (lv_at hl 1 rfl) ?_
  refine va_get (D := G) (ci := 2) (v := .ref a2) (C := RX2) (T := TX2) (N := 7) hx hb hts j_c_X2_clear_2 hown hE.K hP 0 rfl rfl 5 (by decide) (hts (.fieldLink RX2 29 "GossamerGate$Day" "place" "[I") (List.mem_cons_of_mem _ (List.mem_append_left _ (List.mem_of_getElem? (i := 3) rfl)))) (fun _ h9 => h9) rfl dX2_clear_24 ?_
  refine lv_iload_n hx hb dX2_clear_27 rfl (lv_at hl 0 rfl) ?_
  refine lv_iconst (v := 0) hx hb dX2_clear_28 (by decide) ?_
  refine va_iast hx hb hE.K hP hD hS 1 0 rfl rfl (gz_in (by decide)) dX2_clear_29 (fun H locs hP hD hS => ?_)
  have hP : va_P G vwCl [(a, .inr (2, [.int 0, .int 0, .long 0, .ref a0, .ref a1, .ref a2, .ref a3])), (a2, .inl (k 0, 6, .inl (upd (upd (fun _ => 0) 0 0) 1 0))), (a3, .inl (k 0, 6, .inl (upd (fun _ => 0) 0 0)))] H := hP
  have hD : va_D A [(a, .inr (2, [.int 0, .int 0, .long 0, .ref a0, .ref a1, .ref a2, .ref a3])), (a2, .inl (k 0, 6, .inl (upd (upd (fun _ => 0) 0 0) 1 0))), (a3, .inl (k 0, 6, .inl (upd (fun _ => 0) 0 0)))] := hD
  refine lv_aload_n hx hb dX2_clear_30 rfl (lv_at hl 1 rfl) ?_
  refine va_get (D := G) (ci := 2) (v := .ref a3) (C := RX2) (T := TX2) (N := 7) hx hb hts j_c_X2_clear_2 hown hE.K hP 0 rfl rfl 6 (by decide) (hts (.fieldLink RX2 32 "GossamerGate$Day" "tangled" "[I") (List.mem_cons_of_mem _ (List.mem_append_left _ (List.mem_of_getElem? (i := 4) rfl)))) (fun _ h9 => h9) rfl dX2_clear_31 ?_
  refine lv_iload_n hx hb dX2_clear_34 rfl (lv_at hl 0 rfl) ?_
  refine lv_iconst (v := 0) hx hb dX2_clear_35 (by decide) ?_
  refine va_iast hx hb hE.K hP hD hS 2 0 rfl rfl (gz_in (by decide)) dX2_clear_36 (fun H locs hP hD hS => ?_)
  have hP : va_P G vwCl [(a, .inr (2, [.int 0, .int 0, .long 0, .ref a0, .ref a1, .ref a2, .ref a3])), (a2, .inl (k 0, 6, .inl (upd (upd (fun _ => 0) 0 0) 1 0))), (a3, .inl (k 0, 6, .inl (upd (upd (fun _ => 0) 0 0) 1 0)))] H := hP
  have hD : va_D A [(a, .inr (2, [.int 0, .int 0, .long 0, .ref a0, .ref a1, .ref a2, .ref a3])), (a2, .inl (k 0, 6, .inl (upd (upd (fun _ => 0) 0 0) 1 0))), (a3, .inl (k 0, 6, .inl (upd (upd (fun _ => 0) 0 0) 1 0)))] := hD
  refine lv_iinc (v := 2) (lv' := [(1, .int 2), (0, .ref a)]) hx hb dX2_clear_37 hl (k := 0) rfl (by decide) (by decide) rfl (fun ls hl => ?_)
  refine lv_goto (tgt := 17) hx hb dX2_clear_40 (by decide) ?_
  refine lv_iload_n hx hb dX2_clear_17 rfl (lv_at hl 0 rfl) ?_
  refine lv_bipush (v := 6) hx hb dX2_clear_18 (by decide) ?_
  refine lv_icmp_ge (tgt := 43) hx hb dX2_clear_20 (by decide) (fun h9 => absurd h9 (by decide)) (fun _ => ?_)
  refine lv_aload_n hx hb dX2_clear_23 rfl (lv_at hl 1 rfl) ?_
  refine va_get (D := G) (ci := 2) (v := .ref a2) (C := RX2) (T := TX2) (N := 7) hx hb hts j_c_X2_clear_2 hown hE.K hP 0 rfl rfl 5 (by decide) (hts (.fieldLink RX2 29 "GossamerGate$Day" "place" "[I") (List.mem_cons_of_mem _ (List.mem_append_left _ (List.mem_of_getElem? (i := 3) rfl)))) (fun _ h9 => h9) rfl dX2_clear_24 ?_
  refine lv_iload_n hx hb dX2_clear_27 rfl (lv_at hl 0 rfl) ?_
  refine lv_iconst (v := 0) hx hb dX2_clear_28 (by decide) ?_
  refine va_iast hx hb hE.K hP hD hS 1 0 rfl rfl (gz_in (by decide)) dX2_clear_29 (fun H locs hP hD hS => ?_)
  have hP : va_P G vwCl [(a, .inr (2, [.int 0, .int 0, .long 0, .ref a0, .ref a1, .ref a2, .ref a3])), (a2, .inl (k 0, 6, .inl (upd (upd (upd (fun _ => 0) 0 0) 1 0) 2 0))), (a3, .inl (k 0, 6, .inl (upd (upd (fun _ => 0) 0 0) 1 0)))] H := hP
  have hD : va_D A [(a, .inr (2, [.int 0, .int 0, .long 0, .ref a0, .ref a1, .ref a2, .ref a3])), (a2, .inl (k 0, 6, .inl (upd (upd (upd (fun _ => 0) 0 0) 1 0) 2 0))), (a3, .inl (k 0, 6, .inl (upd (upd (fun _ => 0) 0 0) 1 0)))] := hD
  refine lv_aload_n hx hb dX2_clear_30 rfl (lv_at hl 1 rfl) ?_
  refine va_get (D := G) (ci := 2) (v := .ref a3) (C := RX2) (T := TX2) (N := 7) hx hb hts j_c_X2_clear_2 hown hE.K hP 0 rfl rfl 6 (by decide) (hts (.fieldLink RX2 32 "GossamerGate$Day" "tangled" "[I") (List.mem_cons_of_mem _ (List.mem_append_left _ (List.mem_of_getElem? (i := 4) rfl)))) (fun _ h9 => h9) rfl dX2_clear_31 ?_
  refine lv_iload_n hx hb dX2_clear_34 rfl (lv_at hl 0 rfl) ?_
  refine lv_iconst (v := 0) hx hb dX2_clear_35 (by decide) ?_
  refine va_iast hx hb hE.K hP hD hS 2 0 rfl rfl (gz_in (by decide)) dX2_clear_36 (fun H locs hP hD hS => ?_)
  have hP : va_P G vwCl [(a, .inr (2, [.int 0, .int 0, .long 0, .ref a0, .ref a1, .ref a2, .ref a3])), (a2, .inl (k 0, 6, .inl (upd (upd (upd (fun _ => 0) 0 0) 1 0) 2 0))), (a3, .inl (k 0, 6, .inl (upd (upd (upd (fun _ => 0) 0 0) 1 0) 2 0)))] H := hP
  have hD : va_D A [(a, .inr (2, [.int 0, .int 0, .long 0, .ref a0, .ref a1, .ref a2, .ref a3])), (a2, .inl (k 0, 6, .inl (upd (upd (upd (fun _ => 0) 0 0) 1 0) 2 0))), (a3, .inl (k 0, 6, .inl (upd (upd (upd (fun _ => 0) 0 0) 1 0) 2 0)))] := hD
  refine lv_iinc (v := 3) (lv' := [(1, .int 3), (0, .ref a)]) hx hb dX2_clear_37 hl (k := 0) rfl (by decide) (by decide) rfl (fun ls hl => ?_)
  refine lv_goto (tgt := 17) hx hb dX2_clear_40 (by decide) ?_
  refine lv_iload_n hx hb dX2_clear_17 rfl (lv_at hl 0 rfl) ?_
  refine lv_bipush (v := 6) hx hb dX2_clear_18 (by decide) ?_
  refine lv_icmp_ge (tgt := 43) hx hb dX2_clear_20 (by decide) (fun h9 => absurd h9 (by decide)) (fun _ => ?_)
  refine lv_aload_n hx hb dX2_clear_23 rfl (lv_at hl 1 rfl) ?_
  refine va_get (D := G) (ci := 2) (v := .ref a2) (C := RX2) (T := TX2) (N := 7) hx hb hts j_c_X2_clear_2 hown hE.K hP 0 rfl rfl 5 (by decide) (hts (.fieldLink RX2 29 "GossamerGate$Day" "place" "[I") (List.mem_cons_of_mem _ (List.mem_append_left _ (List.mem_of_getElem? (i := 3) rfl)))) (fun _ h9 => h9) rfl dX2_clear_24 ?_
  refine lv_iload_n hx hb dX2_clear_27 rfl (lv_at hl 0 rfl) ?_
  refine lv_iconst (v := 0) hx hb dX2_clear_28 (by decide) ?_
  refine va_iast hx hb hE.K hP hD hS 1 0 rfl rfl (gz_in (by decide)) dX2_clear_29 (fun H locs hP hD hS => ?_)
  have hP : va_P G vwCl [(a, .inr (2, [.int 0, .int 0, .long 0, .ref a0, .ref a1, .ref a2, .ref a3])), (a2, .inl (k 0, 6, .inl (upd (upd (upd (upd (fun _ => 0) 0 0) 1 0) 2 0) 3 0))), (a3, .inl (k 0, 6, .inl (upd (upd (upd (fun _ => 0) 0 0) 1 0) 2 0)))] H := hP
  have hD : va_D A [(a, .inr (2, [.int 0, .int 0, .long 0, .ref a0, .ref a1, .ref a2, .ref a3])), (a2, .inl (k 0, 6, .inl (upd (upd (upd (upd (fun _ => 0) 0 0) 1 0) 2 0) 3 0))), (a3, .inl (k 0, 6, .inl (upd (upd (upd (fun _ => 0) 0 0) 1 0) 2 0)))] := hD
  refine lv_aload_n hx hb dX2_clear_30 rfl (lv_at hl 1 rfl) ?_
  refine va_get (D := G) (ci := 2) (v := .ref a3) (C := RX2) (T := TX2) (N := 7) hx hb hts j_c_X2_clear_2 hown hE.K hP 0 rfl rfl 6 (by decide) (hts (.fieldLink RX2 32 "GossamerGate$Day" "tangled" "[I") (List.mem_cons_of_mem _ (List.mem_append_left _ (List.mem_of_getElem? (i := 4) rfl)))) (fun _ h9 => h9) rfl dX2_clear_31 ?_
  refine lv_iload_n hx hb dX2_clear_34 rfl (lv_at hl 0 rfl) ?_
  refine lv_iconst (v := 0) hx hb dX2_clear_35 (by decide) ?_
  refine va_iast hx hb hE.K hP hD hS 2 0 rfl rfl (gz_in (by decide)) dX2_clear_36 (fun H locs hP hD hS => ?_)
  have hP : va_P G vwCl [(a, .inr (2, [.int 0, .int 0, .long 0, .ref a0, .ref a1, .ref a2, .ref a3])), (a2, .inl (k 0, 6, .inl (upd (upd (upd (upd (fun _ => 0) 0 0) 1 0) 2 0) 3 0))), (a3, .inl (k 0, 6, .inl (upd (upd (upd (upd (fun _ => 0) 0 0) 1 0) 2 0) 3 0)))] H := hP
  have hD : va_D A [(a, .inr (2, [.int 0, .int 0, .long 0, .ref a0, .ref a1, .ref a2, .ref a3])), (a2, .inl (k 0, 6, .inl (upd (upd (upd (upd (fun _ => 0) 0 0) 1 0) 2 0) 3 0))), (a3, .inl (k 0, 6, .inl (upd (upd (upd (upd (fun _ => 0) 0 0) 1 0) 2 0) 3 0)))] := hD
  refine lv_iinc (v := 4) (lv' := [(1, .int 4), (0, .ref a)]) hx hb dX2_clear_37 hl (k := 0) rfl (by decide) (by decide) rfl (fun ls hl => ?_)
  refine lv_goto (tgt := 17) hx hb dX2_clear_40 (by decide) ?_
  refine lv_iload_n hx hb dX2_clear_17 rfl (lv_at hl 0 rfl) ?_
  refine lv_bipush (v := 6) hx hb dX2_clear_18 (by decide) ?_
  refine lv_icmp_ge (tgt := 43) hx hb dX2_clear_20 (by decide) (fun h9 => absurd h9 (by decide)) (fun _ => ?_)
  refine lv_aload_n hx hb dX2_clear_23 rfl (lv_at hl 1 rfl) ?_
  refine va_get (D := G) (ci := 2) (v := .ref a2) (C := RX2) (T := TX2) (N := 7) hx hb hts j_c_X2_clear_2 hown hE.K hP 0 rfl rfl 5 (by decide) (hts (.fieldLink RX2 29 "GossamerGate$Day" "place" "[I") (List.mem_cons_of_mem _ (List.mem_append_left _ (List.mem_of_getElem? (i := 3) rfl)))) (fun _ h9 => h9) rfl dX2_clear_24 ?_
  refine lv_iload_n hx hb dX2_clear_27 rfl (lv_at hl 0 rfl) ?_
  refine lv_iconst (v := 0) hx hb dX2_clear_28 (by decide) ?_
  refine va_iast hx hb hE.K hP hD hS 1 0 rfl rfl (gz_in (by decide)) dX2_clear_29 (fun H locs hP hD hS => ?_)
  have hP : va_P G vwCl [(a, .inr (2, [.int 0, .int 0, .long 0, .ref a0, .ref a1, .ref a2, .ref a3])), (a2, .inl (k 0, 6, .inl (upd (upd (upd (upd (upd (fun _ => 0) 0 0) 1 0) 2 0) 3 0) 4 0))), (a3, .inl (k 0, 6, .inl (upd (upd (upd (upd (fun _ => 0) 0 0) 1 0) 2 0) 3 0)))] H := hP
  have hD : va_D A [(a, .inr (2, [.int 0, .int 0, .long 0, .ref a0, .ref a1, .ref a2, .ref a3])), (a2, .inl (k 0, 6, .inl (upd (upd (upd (upd (upd (fun _ => 0) 0 0) 1 0) 2 0) 3 0) 4 0))), (a3, .inl (k 0, 6, .inl (upd (upd (upd (upd (fun _ => 0) 0 0) 1 0) 2 0) 3 0)))] := hD
  refine lv_aload_n hx hb dX2_clear_30 rfl (lv_at hl 1 rfl) ?_
  refine va_get (D := G) (ci := 2) (v := .ref a3) (C := RX2) (T := TX2) (N := 7) hx hb hts j_c_X2_clear_2 hown hE.K hP 0 rfl rfl 6 (by decide) (hts (.fieldLink RX2 32 "GossamerGate$Day" "tangled" "[I") (List.mem_cons_of_mem _ (List.mem_append_left _ (List.mem_of_getElem? (i := 4) rfl)))) (fun _ h9 => h9) rfl dX2_clear_31 ?_
  refine lv_iload_n hx hb dX2_clear_34 rfl (lv_at hl 0 rfl) ?_
  refine lv_iconst (v := 0) hx hb dX2_clear_35 (by decide) ?_
  refine va_iast hx hb hE.K hP hD hS 2 0 rfl rfl (gz_in (by decide)) dX2_clear_36 (fun H locs hP hD hS => ?_)
  have hP : va_P G vwCl [(a, .inr (2, [.int 0, .int 0, .long 0, .ref a0, .ref a1, .ref a2, .ref a3])), (a2, .inl (k 0, 6, .inl (upd (upd (upd (upd (upd (fun _ => 0) 0 0) 1 0) 2 0) 3 0) 4 0))), (a3, .inl (k 0, 6, .inl (upd (upd (upd (upd (upd (fun _ => 0) 0 0) 1 0) 2 0) 3 0) 4 0)))] H := hP
  have hD : va_D A [(a, .inr (2, [.int 0, .int 0, .long 0, .ref a0, .ref a1, .ref a2, .ref a3])), (a2, .inl (k 0, 6, .inl (upd (upd (upd (upd (upd (fun _ => 0) 0 0) 1 0) 2 0) 3 0) 4 0))), (a3, .inl (k 0, 6, .inl (upd (upd (upd (upd (upd (fun _ => 0) 0 0) 1 0) 2 0) 3 0) 4 0)))] := hD
  refine lv_iinc (v := 5) (lv' := [(1, .int 5), (0, .ref a)]) hx hb dX2_clear_37 hl (k := 0) rfl (by decide) (by decide) rfl (fun ls hl => ?_)
  refine lv_goto (tgt := 17) hx hb dX2_clear_40 (by decide) ?_
  refine lv_iload_n hx hb dX2_clear_17 rfl (lv_at hl 0 rfl) ?_
  refine lv_bipush (v := 6) hx hb dX2_clear_18 (by decide) ?_
  refine lv_icmp_ge (tgt := 43) hx hb dX2_clear_20 (by decide) (fun h9 => absurd h9 (by decide)) (fun _ => ?_)
  refine lv_aload_n hx hb dX2_clear_23 rfl (lv_at hl 1 rfl) ?_
  refine va_get (D := G) (ci := 2) (v := .ref a2) (C := RX2) (T := TX2) (N := 7) hx hb hts j_c_X2_clear_2 hown hE.K hP 0 rfl rfl 5 (by decide) (hts (.fieldLink RX2 29 "GossamerGate$Day" "place" "[I") (List.mem_cons_of_mem _ (List.mem_append_left _ (List.mem_of_getElem? (i := 3) rfl)))) (fun _ h9 => h9) rfl dX2_clear_24 ?_
  refine lv_iload_n hx hb dX2_clear_27 rfl (lv_at hl 0 rfl) ?_
  refine lv_iconst (v := 0) hx hb dX2_clear_28 (by decide) ?_
  refine va_iast hx hb hE.K hP hD hS 1 0 rfl rfl (gz_in (by decide)) dX2_clear_29 (fun H locs hP hD hS => ?_)
  have hP : va_P G vwCl [(a, .inr (2, [.int 0, .int 0, .long 0, .ref a0, .ref a1, .ref a2, .ref a3])), (a2, .inl (k 0, 6, .inl (upd (upd (upd (upd (upd (upd (fun _ => 0) 0 0) 1 0) 2 0) 3 0) 4 0) 5 0))), (a3, .inl (k 0, 6, .inl (upd (upd (upd (upd (upd (fun _ => 0) 0 0) 1 0) 2 0) 3 0) 4 0)))] H := hP
  have hD : va_D A [(a, .inr (2, [.int 0, .int 0, .long 0, .ref a0, .ref a1, .ref a2, .ref a3])), (a2, .inl (k 0, 6, .inl (upd (upd (upd (upd (upd (upd (fun _ => 0) 0 0) 1 0) 2 0) 3 0) 4 0) 5 0))), (a3, .inl (k 0, 6, .inl (upd (upd (upd (upd (upd (fun _ => 0) 0 0) 1 0) 2 0) 3 0) 4 0)))] := hD
  refine lv_aload_n hx hb dX2_clear_30 rfl (lv_at hl 1 rfl) ?_
  refine va_get (D := G) (ci := 2) (v := .ref a3) (C := RX2) (T := TX2) (N := 7) hx hb hts j_c_X2_clear_2 hown hE.K hP 0 rfl rfl 6 (by decide) (hts (.fieldLink RX2 32 "GossamerGate$Day" "tangled" "[I") (List.mem_cons_of_mem _ (List.mem_append_left _ (List.mem_of_getElem? (i := 4) rfl)))) (fun _ h9 => h9) rfl dX2_clear_31 ?_
  refine lv_iload_n hx hb dX2_clear_34 rfl (lv_at hl 0 rfl) ?_
  refine lv_iconst (v := 0) hx hb dX2_clear_35 (by decide) ?_
  refine va_iast hx hb hE.K hP hD hS 2 0 rfl rfl (gz_in (by decide)) dX2_clear_36 (fun H locs hP hD hS => ?_)
  have hP : va_P G vwCl [(a, .inr (2, [.int 0, .int 0, .long 0, .ref a0, .ref a1, .ref a2, .ref a3])), (a2, .inl (k 0, 6, .inl (upd (upd (upd (upd (upd (upd (fun _ => 0) 0 0) 1 0) 2 0) 3 0) 4 0) 5 0))), (a3, .inl (k 0, 6, .inl (upd (upd (upd (upd (upd (upd (fun _ => 0) 0 0) 1 0) 2 0) 3 0) 4 0) 5 0)))] H := hP
  have hD : va_D A [(a, .inr (2, [.int 0, .int 0, .long 0, .ref a0, .ref a1, .ref a2, .ref a3])), (a2, .inl (k 0, 6, .inl (upd (upd (upd (upd (upd (upd (fun _ => 0) 0 0) 1 0) 2 0) 3 0) 4 0) 5 0))), (a3, .inl (k 0, 6, .inl (upd (upd (upd (upd (upd (upd (fun _ => 0) 0 0) 1 0) 2 0) 3 0) 4 0) 5 0)))] := hD
  refine lv_iinc (v := 6) (lv' := [(1, .int 6), (0, .ref a)]) hx hb dX2_clear_37 hl (k := 0) rfl (by decide) (by decide) rfl (fun ls hl => ?_)
  refine lv_goto (tgt := 17) hx hb dX2_clear_40 (by decide) ?_
  refine lv_iload_n hx hb dX2_clear_17 rfl (lv_at hl 0 rfl) ?_
  refine lv_bipush (v := 6) hx hb dX2_clear_18 (by decide) ?_
  refine lv_icmp_ge (tgt := 43) hx hb dX2_clear_20 (by decide) (fun _ => ?_) (fun h9 => absurd h9 (by decide))
  have hP9 := hP.sub (ws' := []) [] rfl
  have hD9 := hD.sub (ws' := []) [] (by decide) rfl
  exact W.vret hx hb hr (fun t ht hW => ⟨⟨(fun _ => 0), rfl, trivial, by rw [ht]; exact hP9, hD9⟩, hS.F ht⟩) hS.2.2 dX2_clear_43
set_option maxHeartbeats 4000000 in
set_option maxRecDepth 100000 in
/-- Country.clear -/
theorem c_X0_clear (l : Launch) (G : va_G) (k : Nat → ClassId) (sa : Nat → Nat) (sz : Nat) (d : Nat) (f : Nat → Nat) : Met l yX0_clear vs_c_X0_clear ({ frames := 1, cells := 0, slots := 0, locals := 21 } : Room) (gP G k sa [.ref d] [(d, .inr (0, [.int 0, .int 0, .ref (f 0), .ref (f 1), .ref (f 2), .ref (f 3)])), (f 0, .inl (k 0, 12, .inl (fun _ => 0))), (f 1, .inl (k 0, 12, .inl (fun _ => 0))), (f 2, .inl (k 0, 6, .inl (fun _ => 0))), (f 3, .inr (2, [.int 0, .int 0, .long 0, .ref (f 4), .ref (f 5), .ref (f 6), .ref (f 7)])), (f 4, .inl (k 0, 6, .inl (fun _ => 0))), (f 5, .inl (k 0, 6, .inl (fun _ => 0))), (f 6, .inl (k 0, 6, .inl (fun _ => 0))), (f 7, .inl (k 0, 6, .inl (fun _ => 0)))] sz) (va_Qv (fun _ : Nat → Nat => True) (gO G (va_A ([(d, .inr (0, [.int 0, .int 0, .ref (f 0), .ref (f 1), .ref (f 2), .ref (f 3)])), (f 0, .inl (k 0, 12, .inl (fun _ => 0))), (f 1, .inl (k 0, 12, .inl (fun _ => 0))), (f 2, .inl (k 0, 6, .inl (fun _ => 0))), (f 3, .inr (2, [.int 0, .int 0, .long 0, .ref (f 4), .ref (f 5), .ref (f 6), .ref (f 7)])), (f 4, .inl (k 0, 6, .inl (fun _ => 0))), (f 5, .inl (k 0, 6, .inl (fun _ => 0))), (f 6, .inl (k 0, 6, .inl (fun _ => 0))), (f 7, .inl (k 0, 6, .inl (fun _ => 0)))]) sz) (fun _ => [])) (va_A ([(d, .inr (0, [.int 0, .int 0, .ref (f 0), .ref (f 1), .ref (f 2), .ref (f 3)])), (f 0, .inl (k 0, 12, .inl (fun _ => 0))), (f 1, .inl (k 0, 12, .inl (fun _ => 0))), (f 2, .inl (k 0, 6, .inl (fun _ => 0))), (f 3, .inr (2, [.int 0, .int 0, .long 0, .ref (f 4), .ref (f 5), .ref (f 6), .ref (f 7)])), (f 4, .inl (k 0, 6, .inl (fun _ => 0))), (f 5, .inl (k 0, 6, .inl (fun _ => 0))), (f 6, .inl (k 0, 6, .inl (fun _ => 0))), (f 7, .inl (k 0, 6, .inl (fun _ => 0)))]) sz)) 0 0 (va_A ([(d, .inr (0, [.int 0, .int 0, .ref (f 0), .ref (f 1), .ref (f 2), .ref (f 3)])), (f 0, .inl (k 0, 12, .inl (fun _ => 0))), (f 1, .inl (k 0, 12, .inl (fun _ => 0))), (f 2, .inl (k 0, 6, .inl (fun _ => 0))), (f 3, .inr (2, [.int 0, .int 0, .long 0, .ref (f 4), .ref (f 5), .ref (f 6), .ref (f 7)])), (f 4, .inl (k 0, 6, .inl (fun _ => 0))), (f 5, .inl (k 0, 6, .inl (fun _ => 0))), (f 6, .inl (k 0, 6, .inl (fun _ => 0))), (f 7, .inl (k 0, 6, .inl (fun _ => 0)))]) sz) := by
  refine gz_met (cc := cX0_clear) (maxL := 1) (ret := none) (by decide) rfl (Nat.le_of_ble_eq_true rfl) ?_
  intro p_ e_ s_ m below_ meth_ c_ ls hx hb hr hml hts hown hlocks hin hP hE hD hA hS
  generalize hAe : va_A ([(d, .inr (0, [.int 0, .int 0, .ref (f 0), .ref (f 1), .ref (f 2), .ref (f 3)])), (f 0, .inl (k 0, 12, .inl (fun _ => 0))), (f 1, .inl (k 0, 12, .inl (fun _ => 0))), (f 2, .inl (k 0, 6, .inl (fun _ => 0))), (f 3, .inr (2, [.int 0, .int 0, .long 0, .ref (f 4), .ref (f 5), .ref (f 6), .ref (f 7)])), (f 4, .inl (k 0, 6, .inl (fun _ => 0))), (f 5, .inl (k 0, 6, .inl (fun _ => 0))), (f 6, .inl (k 0, 6, .inl (fun _ => 0))), (f 7, .inl (k 0, 6, .inl (fun _ => 0)))]) sz = A at hD hA hS ⊢
  intro hl
  have hl : lv_has ls 1 [(0, .ref d)] := hl
  refine lv_aload_n hx hb dX0_clear_0 rfl (lv_at hl 0 rfl) ?_
  refine lv_iconst (v := 0) hx hb dX0_clear_1 (by decide) ?_
  refine va_put (D := G) (ci := 0) (v := .int 0) (ty := .int) (C := RX0) (T := TX0) (N := 6) hx hb hts j_c_X0_clear_0 tyX0 tyX0_ok nmX0 hown hE.K hP hD hS 0 rfl rfl 0 (by decide) (hts (.fieldLink RX0 9 "GossamerGate$Country" "side" "I") (List.mem_cons_of_mem _ (List.mem_append_left _ (List.mem_of_getElem? (i := 0) rfl)))) (fun _ h9 => h9) rfl (by decide +kernel) rfl rfl (Nat.le_of_ble_eq_true rfl) dX0_clear_2 (fun H locs hP hD hS => ?_)
  have hP : va_P G vwCl [(d, .inr (0, [.int 0, .int 0, .ref (f 0), .ref (f 1), .ref (f 2), .ref (f 3)])), (f 0, .inl (k 0, 12, .inl (fun _ => 0))), (f 1, .inl (k 0, 12, .inl (fun _ => 0))), (f 2, .inl (k 0, 6, .inl (fun _ => 0))), (f 3, .inr (2, [.int 0, .int 0, .long 0, .ref (f 4), .ref (f 5), .ref (f 6), .ref (f 7)])), (f 4, .inl (k 0, 6, .inl (fun _ => 0))), (f 5, .inl (k 0, 6, .inl (fun _ => 0))), (f 6, .inl (k 0, 6, .inl (fun _ => 0))), (f 7, .inl (k 0, 6, .inl (fun _ => 0)))] H := hP
  have hD : va_D A [(d, .inr (0, [.int 0, .int 0, .ref (f 0), .ref (f 1), .ref (f 2), .ref (f 3)])), (f 0, .inl (k 0, 12, .inl (fun _ => 0))), (f 1, .inl (k 0, 12, .inl (fun _ => 0))), (f 2, .inl (k 0, 6, .inl (fun _ => 0))), (f 3, .inr (2, [.int 0, .int 0, .long 0, .ref (f 4), .ref (f 5), .ref (f 6), .ref (f 7)])), (f 4, .inl (k 0, 6, .inl (fun _ => 0))), (f 5, .inl (k 0, 6, .inl (fun _ => 0))), (f 6, .inl (k 0, 6, .inl (fun _ => 0))), (f 7, .inl (k 0, 6, .inl (fun _ => 0)))] := hD
  refine lv_aload_n hx hb dX0_clear_5 rfl (lv_at hl 0 rfl) ?_
  refine lv_iconst (v := 0) hx hb dX0_clear_6 (by decide) ?_
  refine va_put (D := G) (ci := 0) (v := .int 0) (ty := .int) (C := RX0) (T := TX0) (N := 6) hx hb hts j_c_X0_clear_0 tyX0 tyX0_ok nmX0 hown hE.K hP hD hS 0 rfl rfl 1 (by decide) (hts (.fieldLink RX0 15 "GossamerGate$Country" "winds" "I") (List.mem_cons_of_mem _ (List.mem_append_left _ (List.mem_of_getElem? (i := 1) rfl)))) (fun _ h9 => h9) rfl (by decide +kernel) rfl rfl (Nat.le_of_ble_eq_true rfl) dX0_clear_7 (fun H locs hP hD hS => ?_)
  have hP : va_P G vwCl [(d, .inr (0, [.int 0, .int 0, .ref (f 0), .ref (f 1), .ref (f 2), .ref (f 3)])), (f 0, .inl (k 0, 12, .inl (fun _ => 0))), (f 1, .inl (k 0, 12, .inl (fun _ => 0))), (f 2, .inl (k 0, 6, .inl (fun _ => 0))), (f 3, .inr (2, [.int 0, .int 0, .long 0, .ref (f 4), .ref (f 5), .ref (f 6), .ref (f 7)])), (f 4, .inl (k 0, 6, .inl (fun _ => 0))), (f 5, .inl (k 0, 6, .inl (fun _ => 0))), (f 6, .inl (k 0, 6, .inl (fun _ => 0))), (f 7, .inl (k 0, 6, .inl (fun _ => 0)))] H := hP
  have hD : va_D A [(d, .inr (0, [.int 0, .int 0, .ref (f 0), .ref (f 1), .ref (f 2), .ref (f 3)])), (f 0, .inl (k 0, 12, .inl (fun _ => 0))), (f 1, .inl (k 0, 12, .inl (fun _ => 0))), (f 2, .inl (k 0, 6, .inl (fun _ => 0))), (f 3, .inr (2, [.int 0, .int 0, .long 0, .ref (f 4), .ref (f 5), .ref (f 6), .ref (f 7)])), (f 4, .inl (k 0, 6, .inl (fun _ => 0))), (f 5, .inl (k 0, 6, .inl (fun _ => 0))), (f 6, .inl (k 0, 6, .inl (fun _ => 0))), (f 7, .inl (k 0, 6, .inl (fun _ => 0)))] := hD
  refine lv_aload_n hx hb dX0_clear_10 rfl (lv_at hl 0 rfl) ?_
  refine va_get (D := G) (ci := 0) (v := .ref (f 0)) (C := RX0) (T := TX0) (N := 6) hx hb hts j_c_X0_clear_0 hown hE.K hP 0 rfl rfl 2 (by decide) (hts (.fieldLink RX0 18 "GossamerGate$Country" "way" "[I") (List.mem_cons_of_mem _ (List.mem_append_left _ (List.mem_of_getElem? (i := 2) rfl)))) (fun _ h9 => h9) rfl dX0_clear_11 ?_
  refine lv_iconst (v := 0) hx hb dX0_clear_14 (by decide) ?_
  refine lv_iconst (v := 0) hx hb dX0_clear_15 (by decide) ?_
  refine va_iast hx hb hE.K hP hD hS 1 0 rfl rfl (gz_in (by decide)) dX0_clear_16 (fun H locs hP hD hS => ?_)
  have hP : va_P G vwCl [(d, .inr (0, [.int 0, .int 0, .ref (f 0), .ref (f 1), .ref (f 2), .ref (f 3)])), (f 0, .inl (k 0, 12, .inl (upd (fun _ => 0) 0 0))), (f 1, .inl (k 0, 12, .inl (fun _ => 0))), (f 2, .inl (k 0, 6, .inl (fun _ => 0))), (f 3, .inr (2, [.int 0, .int 0, .long 0, .ref (f 4), .ref (f 5), .ref (f 6), .ref (f 7)])), (f 4, .inl (k 0, 6, .inl (fun _ => 0))), (f 5, .inl (k 0, 6, .inl (fun _ => 0))), (f 6, .inl (k 0, 6, .inl (fun _ => 0))), (f 7, .inl (k 0, 6, .inl (fun _ => 0)))] H := hP
  have hD : va_D A [(d, .inr (0, [.int 0, .int 0, .ref (f 0), .ref (f 1), .ref (f 2), .ref (f 3)])), (f 0, .inl (k 0, 12, .inl (upd (fun _ => 0) 0 0))), (f 1, .inl (k 0, 12, .inl (fun _ => 0))), (f 2, .inl (k 0, 6, .inl (fun _ => 0))), (f 3, .inr (2, [.int 0, .int 0, .long 0, .ref (f 4), .ref (f 5), .ref (f 6), .ref (f 7)])), (f 4, .inl (k 0, 6, .inl (fun _ => 0))), (f 5, .inl (k 0, 6, .inl (fun _ => 0))), (f 6, .inl (k 0, 6, .inl (fun _ => 0))), (f 7, .inl (k 0, 6, .inl (fun _ => 0)))] := hD
  refine lv_aload_n hx hb dX0_clear_17 rfl (lv_at hl 0 rfl) ?_
  refine va_get (D := G) (ci := 0) (v := .ref (f 1)) (C := RX0) (T := TX0) (N := 6) hx hb hts j_c_X0_clear_0 hown hE.K hP 0 rfl rfl 3 (by decide) (hts (.fieldLink RX0 22 "GossamerGate$Country" "strength" "[I") (List.mem_cons_of_mem _ (List.mem_append_left _ (List.mem_of_getElem? (i := 3) rfl)))) (fun _ h9 => h9) rfl dX0_clear_18 ?_
  refine lv_iconst (v := 0) hx hb dX0_clear_21 (by decide) ?_
  refine lv_iconst (v := 0) hx hb dX0_clear_22 (by decide) ?_
  refine va_iast hx hb hE.K hP hD hS 2 0 rfl rfl (gz_in (by decide)) dX0_clear_23 (fun H locs hP hD hS => ?_)
  have hP : va_P G vwCl [(d, .inr (0, [.int 0, .int 0, .ref (f 0), .ref (f 1), .ref (f 2), .ref (f 3)])), (f 0, .inl (k 0, 12, .inl (upd (fun _ => 0) 0 0))), (f 1, .inl (k 0, 12, .inl (upd (fun _ => 0) 0 0))), (f 2, .inl (k 0, 6, .inl (fun _ => 0))), (f 3, .inr (2, [.int 0, .int 0, .long 0, .ref (f 4), .ref (f 5), .ref (f 6), .ref (f 7)])), (f 4, .inl (k 0, 6, .inl (fun _ => 0))), (f 5, .inl (k 0, 6, .inl (fun _ => 0))), (f 6, .inl (k 0, 6, .inl (fun _ => 0))), (f 7, .inl (k 0, 6, .inl (fun _ => 0)))] H := hP
  have hD : va_D A [(d, .inr (0, [.int 0, .int 0, .ref (f 0), .ref (f 1), .ref (f 2), .ref (f 3)])), (f 0, .inl (k 0, 12, .inl (upd (fun _ => 0) 0 0))), (f 1, .inl (k 0, 12, .inl (upd (fun _ => 0) 0 0))), (f 2, .inl (k 0, 6, .inl (fun _ => 0))), (f 3, .inr (2, [.int 0, .int 0, .long 0, .ref (f 4), .ref (f 5), .ref (f 6), .ref (f 7)])), (f 4, .inl (k 0, 6, .inl (fun _ => 0))), (f 5, .inl (k 0, 6, .inl (fun _ => 0))), (f 6, .inl (k 0, 6, .inl (fun _ => 0))), (f 7, .inl (k 0, 6, .inl (fun _ => 0)))] := hD
  refine lv_aload_n hx hb dX0_clear_24 rfl (lv_at hl 0 rfl) ?_
  refine va_get (D := G) (ci := 0) (v := .ref (f 3)) (C := RX0) (T := TX0) (N := 6) hx hb hts j_c_X0_clear_0 hown hE.K hP 0 rfl rfl 5 (by decide) (hts (.fieldLink RX0 31 "GossamerGate$Country" "begin" "LGossamerGate$Day;") (List.mem_cons_of_mem _ (List.mem_append_left _ (List.mem_of_getElem? (i := 4) rfl)))) (fun _ h9 => h9) rfl dX0_clear_25 ?_
  refine gz_v (wc := [((f 3), .inr (2, [.int 0, .int 0, .long 0, .ref (f 4), .ref (f 5), .ref (f 6), .ref (f 7)])), ((f 6), .inl (k 0, 6, .inl (fun _ => 0))), ((f 7), .inl (k 0, 6, .inl (fun _ => 0)))]) (wr := [(d, .inr (0, [.int 0, .int 0, .ref (f 0), .ref (f 1), .ref (f 2), .ref (f 3)])), (f 0, .inl (k 0, 12, .inl (upd (fun _ => 0) 0 0))), (f 1, .inl (k 0, 12, .inl (upd (fun _ => 0) 0 0))), (f 2, .inl (k 0, 6, .inl (fun _ => 0))), (f 4, .inl (k 0, 6, .inl (fun _ => 0))), (f 5, .inl (k 0, 6, .inl (fun _ => 0)))]) hP hD hS hA [4, 7, 8] [0, 1, 2, 3, 5, 6] rfl rfl (by decide) (by decide) (va_runV (As := []) (rest := []) ⟨hx, hb, hml, hown, hts⟩ (c_X2_clear l G k sa _ (f 3) (f 4) (f 5) (f 6) (f 7)) (cwV 0 hts g_c_X0_clear_41_c_X2_clear rfl rfl rfl (by decide +kernel) ⟨(Nat.le_of_ble_eq_true rfl), (Nat.le_of_ble_eq_true rfl)⟩) ⟨gP.bl, va_recv hE.K hP (ci := 2) (q0 := 4) rfl rfl, (gP.pre (wc := [((f 3), .inr (2, [.int 0, .int 0, .long 0, .ref (f 4), .ref (f 5), .ref (f 6), .ref (f 7)])), ((f 6), .inl (k 0, 6, .inl (fun _ => 0))), ((f 7), .inl (k 0, 6, .inl (fun _ => 0)))]) hE hP hD [4, 7, 8] rfl (by decide))⟩ rfl rfl hl.1 rfl (lv_room (Nat.le_of_ble_eq_true rfl)) dX0_clear_28 ⟨(Nat.le_of_ble_eq_true rfl), (Nat.le_of_ble_eq_true rfl)⟩) (fun u_1 H locs _ hP hD hS => ?_)
  have hP : va_P G vwCl [(d, .inr (0, [.int 0, .int 0, .ref (f 0), .ref (f 1), .ref (f 2), .ref (f 3)])), (f 0, .inl (k 0, 12, .inl (upd (fun _ => 0) 0 0))), (f 1, .inl (k 0, 12, .inl (upd (fun _ => 0) 0 0))), (f 2, .inl (k 0, 6, .inl (fun _ => 0))), (f 4, .inl (k 0, 6, .inl (fun _ => 0))), (f 5, .inl (k 0, 6, .inl (fun _ => 0)))] H := hP
  have hD : va_D A [(d, .inr (0, [.int 0, .int 0, .ref (f 0), .ref (f 1), .ref (f 2), .ref (f 3)])), (f 0, .inl (k 0, 12, .inl (upd (fun _ => 0) 0 0))), (f 1, .inl (k 0, 12, .inl (upd (fun _ => 0) 0 0))), (f 2, .inl (k 0, 6, .inl (fun _ => 0))), (f 4, .inl (k 0, 6, .inl (fun _ => 0))), (f 5, .inl (k 0, 6, .inl (fun _ => 0)))] := hD
  have hP9 := hP.sub (ws' := []) [] rfl
  have hD9 := hD.sub (ws' := []) [] (by decide) rfl
  exact W.vret hx hb hr (fun t ht hW => ⟨⟨(fun _ => 0), rfl, trivial, by rw [ht]; exact hP9, hD9⟩, hS.F ht⟩) hS.2.2 dX0_clear_31
set_option maxHeartbeats 4000000 in
set_option maxRecDepth 100000 in
/-- advance at the end of an empty tape -/
theorem c_X8_advance (l : Launch) (G : va_G) (k : Nat → ClassId) (sa : Nat → Nat) (sz : Nat) (t : Nat) (tp : Nat) (tb : Nat) (ft : Int32) : Met l yX8_advance vs_c_X8_advance ({ frames := 0, cells := 0, slots := 0, locals := 0 } : Room) (gP G k sa [.ref t] [(t, .inr (8, [.ref tp, .int 0, .int 0, .int 0, .int (-1), .int ft])), (tp, .inr (7, [.ref tb, .int 0]))] sz) (va_Qv (fun _ : Nat → Nat => True) (gO G (va_A ([(t, .inr (8, [.ref tp, .int 0, .int 0, .int 0, .int (-1), .int ft])), (tp, .inr (7, [.ref tb, .int 0]))]) sz) (fun u => [(t, .inr (8, [.ref tp, .int 0, .int 0, .int 0, .int (-1), .int ft])), (tp, .inr (7, [.ref tb, .int 0]))])) (va_A ([(t, .inr (8, [.ref tp, .int 0, .int 0, .int 0, .int (-1), .int ft])), (tp, .inr (7, [.ref tb, .int 0]))]) sz)) 0 0 (va_A ([(t, .inr (8, [.ref tp, .int 0, .int 0, .int 0, .int (-1), .int ft])), (tp, .inr (7, [.ref tb, .int 0]))]) sz) := by
  refine gz_met (cc := cX8_advance) (maxL := 1) (ret := none) (by decide) rfl (Nat.le_of_ble_eq_true rfl) ?_
  intro p_ e_ s_ m below_ meth_ c_ ls hx hb hr hml hts hown hlocks hin hP hE hD hA hS
  generalize hAe : va_A ([(t, .inr (8, [.ref tp, .int 0, .int 0, .int 0, .int (-1), .int ft])), (tp, .inr (7, [.ref tb, .int 0]))]) sz = A at hD hA hS ⊢
  intro hl
  have hl : lv_has ls 1 [(0, .ref t)] := hl
  refine lv_aload_n hx hb dX8_advance_0 rfl (lv_at hl 0 rfl) ?_
  refine va_get (D := G) (ci := 8) (v := .int 0) (C := RX8) (T := TX8) (N := 6) hx hb hts j_c_X8_advance_8 hown hE.K hP 0 rfl rfl 2 (by decide) (hts (.fieldLink RX8 15 "GossamerGate$Tokens" "at" "I") (List.mem_cons_of_mem _ (List.mem_append_left _ (List.mem_of_getElem? (i := 0) rfl)))) (fun _ h9 => h9) rfl dX8_advance_1 ?_
  refine lv_aload_n hx hb dX8_advance_4 rfl (lv_at hl 0 rfl) ?_
  refine va_get (D := G) (ci := 8) (v := .ref tp) (C := RX8) (T := TX8) (N := 6) hx hb hts j_c_X8_advance_8 hown hE.K hP 0 rfl rfl 0 (by decide) (hts (.fieldLink RX8 27 "GossamerGate$Tokens" "tape" "LGossamerGate$Tape;") (List.mem_cons_of_mem _ (List.mem_append_left _ (List.mem_of_getElem? (i := 1) rfl)))) (fun _ h9 => h9) rfl dX8_advance_5 ?_
  refine va_get (D := G) (ci := 7) (v := .int 0) (C := RX7) (T := TX7) (N := 2) hx hb hts j_c_X8_advance_7 hown hE.K hP 1 rfl rfl 1 (by decide) (hts (.fieldLink RX8 34 "GossamerGate$Tape" "length" "I") (List.mem_cons_of_mem _ (List.mem_append_left _ (List.mem_of_getElem? (i := 2) rfl)))) (fun _ h9 => h9) rfl dX8_advance_8 ?_
  refine lv_icmp_ge (tgt := 44) hx hb dX8_advance_11 (by decide) (fun _ => ?_) (fun h9 => absurd h9 (by decide))
  refine lv_aload_n hx hb dX8_advance_44 rfl (lv_at hl 0 rfl) ?_
  refine lv_aload_n hx hb dX8_advance_45 rfl (lv_at hl 0 rfl) ?_
  refine va_get (D := G) (ci := 8) (v := .int 0) (C := RX8) (T := TX8) (N := 6) hx hb hts j_c_X8_advance_8 hown hE.K hP 0 rfl rfl 2 (by decide) (hts (.fieldLink RX8 15 "GossamerGate$Tokens" "at" "I") (List.mem_cons_of_mem _ (List.mem_append_left _ (List.mem_of_getElem? (i := 0) rfl)))) (fun _ h9 => h9) rfl dX8_advance_46 ?_
  refine va_put (D := G) (ci := 8) (v := .int 0) (ty := .int) (C := RX8) (T := TX8) (N := 6) hx hb hts j_c_X8_advance_8 tyX8 tyX8_ok nmX8 hown hE.K hP hD hS 0 rfl rfl 1 (by decide) (hts (.fieldLink RX8 9 "GossamerGate$Tokens" "start" "I") (List.mem_cons_of_mem _ (List.mem_append_left _ (List.mem_of_getElem? (i := 3) rfl)))) (fun _ h9 => h9) rfl (by decide +kernel) rfl rfl (Nat.le_of_ble_eq_true rfl) dX8_advance_49 (fun H locs hP hD hS => ?_)
  have hP : va_P G vwCl [(t, .inr (8, [.ref tp, .int 0, .int 0, .int 0, .int (-1), .int ft])), (tp, .inr (7, [.ref tb, .int 0]))] H := hP
  have hD : va_D A [(t, .inr (8, [.ref tp, .int 0, .int 0, .int 0, .int (-1), .int ft])), (tp, .inr (7, [.ref tb, .int 0]))] := hD
  refine lv_aload_n hx hb dX8_advance_52 rfl (lv_at hl 0 rfl) ?_
  refine lv_iconst (v := (-1)) hx hb dX8_advance_53 (by decide) ?_
  refine va_put (D := G) (ci := 8) (v := .int (-1)) (ty := .int) (C := RX8) (T := TX8) (N := 6) hx hb hts j_c_X8_advance_8 tyX8 tyX8_ok nmX8 hown hE.K hP hD hS 0 rfl rfl 4 (by decide) (hts (.fieldLink RX8 21 "GossamerGate$Tokens" "value" "I") (List.mem_cons_of_mem _ (List.mem_append_left _ (List.mem_of_getElem? (i := 4) rfl)))) (fun _ h9 => h9) rfl (by decide +kernel) rfl rfl (Nat.le_of_ble_eq_true rfl) dX8_advance_54 (fun H locs hP hD hS => ?_)
  have hP : va_P G vwCl [(t, .inr (8, [.ref tp, .int 0, .int 0, .int 0, .int (-1), .int ft])), (tp, .inr (7, [.ref tb, .int 0]))] H := hP
  have hD : va_D A [(t, .inr (8, [.ref tp, .int 0, .int 0, .int 0, .int (-1), .int ft])), (tp, .inr (7, [.ref tb, .int 0]))] := hD
  refine lv_aload_n hx hb dX8_advance_57 rfl (lv_at hl 0 rfl) ?_
  refine va_get (D := G) (ci := 8) (v := .int 0) (C := RX8) (T := TX8) (N := 6) hx hb hts j_c_X8_advance_8 hown hE.K hP 0 rfl rfl 2 (by decide) (hts (.fieldLink RX8 15 "GossamerGate$Tokens" "at" "I") (List.mem_cons_of_mem _ (List.mem_append_left _ (List.mem_of_getElem? (i := 0) rfl)))) (fun _ h9 => h9) rfl dX8_advance_58 ?_
  refine lv_aload_n hx hb dX8_advance_61 rfl (lv_at hl 0 rfl) ?_
  refine va_get (D := G) (ci := 8) (v := .ref tp) (C := RX8) (T := TX8) (N := 6) hx hb hts j_c_X8_advance_8 hown hE.K hP 0 rfl rfl 0 (by decide) (hts (.fieldLink RX8 27 "GossamerGate$Tokens" "tape" "LGossamerGate$Tape;") (List.mem_cons_of_mem _ (List.mem_append_left _ (List.mem_of_getElem? (i := 1) rfl)))) (fun _ h9 => h9) rfl dX8_advance_62 ?_
  refine va_get (D := G) (ci := 7) (v := .int 0) (C := RX7) (T := TX7) (N := 2) hx hb hts j_c_X8_advance_7 hown hE.K hP 1 rfl rfl 1 (by decide) (hts (.fieldLink RX8 34 "GossamerGate$Tape" "length" "I") (List.mem_cons_of_mem _ (List.mem_append_left _ (List.mem_of_getElem? (i := 2) rfl)))) (fun _ h9 => h9) rfl dX8_advance_65 ?_
  refine lv_icmp_lt (tgt := 77) hx hb dX8_advance_68 (by decide) (fun h9 => absurd h9 (by decide)) (fun _ => ?_)
  refine lv_aload_n hx hb dX8_advance_71 rfl (lv_at hl 0 rfl) ?_
  refine lv_iconst (v := 0) hx hb dX8_advance_72 (by decide) ?_
  refine va_put (D := G) (ci := 8) (v := .int 0) (ty := .int) (C := RX8) (T := TX8) (N := 6) hx hb hts j_c_X8_advance_8 tyX8 tyX8_ok nmX8 hown hE.K hP hD hS 0 rfl rfl 3 (by decide) (hts (.fieldLink RX8 18 "GossamerGate$Tokens" "kind" "I") (List.mem_cons_of_mem _ (List.mem_append_left _ (List.mem_of_getElem? (i := 5) rfl)))) (fun _ h9 => h9) rfl (by decide +kernel) rfl rfl (Nat.le_of_ble_eq_true rfl) dX8_advance_73 (fun H locs hP hD hS => ?_)
  have hP : va_P G vwCl [(t, .inr (8, [.ref tp, .int 0, .int 0, .int 0, .int (-1), .int ft])), (tp, .inr (7, [.ref tb, .int 0]))] H := hP
  have hD : va_D A [(t, .inr (8, [.ref tp, .int 0, .int 0, .int 0, .int (-1), .int ft])), (tp, .inr (7, [.ref tb, .int 0]))] := hD
  have hP9 := hP.sub (ws' := [(t, .inr (8, [.ref tp, .int 0, .int 0, .int 0, .int (-1), .int ft])), (tp, .inr (7, [.ref tb, .int 0]))]) [0, 1] rfl
  have hD9 := hD.sub (ws' := [(t, .inr (8, [.ref tp, .int 0, .int 0, .int 0, .int (-1), .int ft])), (tp, .inr (7, [.ref tb, .int 0]))]) [0, 1] (by decide) rfl
  exact W.vret hx hb hr (fun t ht hW => ⟨⟨(fun _ => 0), rfl, trivial, by rw [ht]; exact hP9, hD9⟩, hS.F ht⟩) hS.2.2 dX8_advance_76
set_option maxHeartbeats 4000000 in
set_option maxRecDepth 100000 in
theorem c_X8_restart (l : Launch) (G : va_G) (k : Nat → ClassId) (sa : Nat → Nat) (sz : Nat) (t : Nat) (tp : Nat) (tb : Nat) : Met l yX8_restart vs_c_X8_restart ({ frames := 1, cells := 0, slots := 0, locals := 20 } : Room) (gP G k sa [.ref t] [(t, .inr (8, [.ref tp, .int 0, .int 0, .int 0, .int (-1), .int 0])), (tp, .inr (7, [.ref tb, .int 0]))] sz) (va_Qv (fun _ : Nat → Nat => True) (gO G (va_A ([(t, .inr (8, [.ref tp, .int 0, .int 0, .int 0, .int (-1), .int 0])), (tp, .inr (7, [.ref tb, .int 0]))]) sz) (fun u => [(t, .inr (8, [.ref tp, .int 0, .int 0, .int 0, .int (-1), .int 0])), (tp, .inr (7, [.ref tb, .int 0]))])) (va_A ([(t, .inr (8, [.ref tp, .int 0, .int 0, .int 0, .int (-1), .int 0])), (tp, .inr (7, [.ref tb, .int 0]))]) sz)) 0 0 (va_A ([(t, .inr (8, [.ref tp, .int 0, .int 0, .int 0, .int (-1), .int 0])), (tp, .inr (7, [.ref tb, .int 0]))]) sz) := by
  refine gz_met (cc := cX8_restart) (maxL := 1) (ret := none) (by decide) rfl (Nat.le_of_ble_eq_true rfl) ?_
  intro p_ e_ s_ m below_ meth_ c_ ls hx hb hr hml hts hown hlocks hin hP hE hD hA hS
  generalize hAe : va_A ([(t, .inr (8, [.ref tp, .int 0, .int 0, .int 0, .int (-1), .int 0])), (tp, .inr (7, [.ref tb, .int 0]))]) sz = A at hD hA hS ⊢
  intro hl
  have hl : lv_has ls 1 [(0, .ref t)] := hl
  refine lv_aload_n hx hb dX8_restart_0 rfl (lv_at hl 0 rfl) ?_
  refine lv_iconst (v := 0) hx hb dX8_restart_1 (by decide) ?_
  refine va_put (D := G) (ci := 8) (v := .int 0) (ty := .int) (C := RX8) (T := TX8) (N := 6) hx hb hts j_c_X8_restart_8 tyX8 tyX8_ok nmX8 hown hE.K hP hD hS 0 rfl rfl 2 (by decide) (hts (.fieldLink RX8 15 "GossamerGate$Tokens" "at" "I") (List.mem_cons_of_mem _ (List.mem_append_left _ (List.mem_of_getElem? (i := 0) rfl)))) (fun _ h9 => h9) rfl (by decide +kernel) rfl rfl (Nat.le_of_ble_eq_true rfl) dX8_restart_2 (fun H locs hP hD hS => ?_)
  have hP : va_P G vwCl [(t, .inr (8, [.ref tp, .int 0, .int 0, .int 0, .int (-1), .int 0])), (tp, .inr (7, [.ref tb, .int 0]))] H := hP
  have hD : va_D A [(t, .inr (8, [.ref tp, .int 0, .int 0, .int 0, .int (-1), .int 0])), (tp, .inr (7, [.ref tb, .int 0]))] := hD
  refine lv_aload_n hx hb dX8_restart_5 rfl (lv_at hl 0 rfl) ?_
  refine lv_iconst (v := 0) hx hb dX8_restart_6 (by decide) ?_
  refine va_put (D := G) (ci := 8) (v := .int 0) (ty := .int) (C := RX8) (T := TX8) (N := 6) hx hb hts j_c_X8_restart_8 tyX8 tyX8_ok nmX8 hown hE.K hP hD hS 0 rfl rfl 5 (by decide) (hts (.fieldLink RX8 24 "GossamerGate$Tokens" "fault" "I") (List.mem_cons_of_mem _ (List.mem_append_left _ (List.mem_of_getElem? (i := 1) rfl)))) (fun _ h9 => h9) rfl (by decide +kernel) rfl rfl (Nat.le_of_ble_eq_true rfl) dX8_restart_7 (fun H locs hP hD hS => ?_)
  have hP : va_P G vwCl [(t, .inr (8, [.ref tp, .int 0, .int 0, .int 0, .int (-1), .int 0])), (tp, .inr (7, [.ref tb, .int 0]))] H := hP
  have hD : va_D A [(t, .inr (8, [.ref tp, .int 0, .int 0, .int 0, .int (-1), .int 0])), (tp, .inr (7, [.ref tb, .int 0]))] := hD
  refine lv_aload_n hx hb dX8_restart_10 rfl (lv_at hl 0 rfl) ?_
  refine gz_v (wc := [(t, .inr (8, [.ref tp, .int 0, .int 0, .int 0, .int (-1), .int 0])), (tp, .inr (7, [.ref tb, .int 0]))]) (wr := []) hP hD hS hA [0, 1] [] rfl rfl (by decide) (by decide) (va_runV (As := []) (rest := []) ⟨hx, hb, hml, hown, hts⟩ (c_X8_advance l G k sa _ t tp tb 0) (cwV 0 hts g_c_X8_restart_31_c_X8_advance rfl rfl rfl (by decide +kernel) ⟨(Nat.le_of_ble_eq_true rfl), (Nat.le_of_ble_eq_true rfl)⟩) ⟨gP.bl, va_recv hE.K hP (ci := 8) (q0 := 0) rfl rfl, (gP.pre (wc := [(t, .inr (8, [.ref tp, .int 0, .int 0, .int 0, .int (-1), .int 0])), (tp, .inr (7, [.ref tb, .int 0]))]) hE hP hD [0, 1] rfl (by decide))⟩ rfl rfl hl.1 rfl (lv_room (Nat.le_of_ble_eq_true rfl)) dX8_restart_11 ⟨(Nat.le_of_ble_eq_true rfl), (Nat.le_of_ble_eq_true rfl)⟩) (fun u_1 H locs _ hP hD hS => ?_)
  have hP : va_P G vwCl [(t, .inr (8, [.ref tp, .int 0, .int 0, .int 0, .int (-1), .int 0])), (tp, .inr (7, [.ref tb, .int 0]))] H := hP
  have hD : va_D A [(t, .inr (8, [.ref tp, .int 0, .int 0, .int 0, .int (-1), .int 0])), (tp, .inr (7, [.ref tb, .int 0]))] := hD
  have hP9 := hP.sub (ws' := [(t, .inr (8, [.ref tp, .int 0, .int 0, .int 0, .int (-1), .int 0])), (tp, .inr (7, [.ref tb, .int 0]))]) [0, 1] rfl
  have hD9 := hD.sub (ws' := [(t, .inr (8, [.ref tp, .int 0, .int 0, .int 0, .int (-1), .int 0])), (tp, .inr (7, [.ref tb, .int 0]))]) [0, 1] (by decide) rfl
  exact W.vret hx hb hr (fun t ht hW => ⟨⟨(fun _ => 0), rfl, trivial, by rw [ht]; exact hP9, hD9⟩, hS.F ht⟩) hS.2.2 dX8_restart_14
set_option maxHeartbeats 4000000 in
set_option maxRecDepth 100000 in
theorem c_X8_wordAmong (l : Launch) (G : va_G) (k : Nat → ClassId) (sa : Nat → Nat) (t : Nat) (tp : Nat) (ft : Int32) (sx : Nat) : Met l yX8_wordAmong vs_c_X8_wordAmong ({ frames := 0, cells := 0, slots := 0, locals := 0 } : Room) (gR G k sa [.ref t, .ref sx] [(t, .inr (8, [.ref tp, .int 0, .int 0, .int 0, .int (-1), .int ft]))]) (vp_Si (fun r => r = (-1))) 0 0 (fun _ => False) := by
  refine gz_metR (cc := cX8_wordAmong) (maxL := 6) (ret := (some .int)) (by decide) rfl (Nat.le_of_ble_eq_true rfl) ?_
  intro p_ e_ s_ m below_ meth_ c_ ls hx hb hr hml hts hown hlocks hP hE hl
  have hl : lv_has ls 6 [(0, .ref t), (1, .ref sx)] := hl
  refine lv_aload_n hx hb dX8_wordAmong_0 rfl (lv_at hl 0 rfl) ?_
  refine va_get (D := G) (ci := 8) (v := .int 0) (C := RX8) (T := TX8) (N := 6) hx hb hts j_c_X8_wordAmong_8 hown hE.K hP 0 rfl rfl 3 (by decide) (hts (.fieldLink RX8 18 "GossamerGate$Tokens" "kind" "I") (List.mem_cons_of_mem _ (List.mem_append_left _ (List.mem_of_getElem? (i := 0) rfl)))) (fun _ h9 => h9) rfl dX8_wordAmong_1 ?_
  refine lv_iconst (v := 2) hx hb dX8_wordAmong_4 (by decide) ?_
  refine lv_icmp_eq (tgt := 10) hx hb dX8_wordAmong_5 (by decide) (fun h9 => absurd h9 (by decide)) (fun _ => ?_)
  refine lv_iconst (v := (-1)) hx hb dX8_wordAmong_8 (by decide) ?_
  exact W.iret (v := (-1)) hx hb hr (fun t ht hW => ⟨(-1), rfl, rfl, ht⟩) (fun _ h9 => absurd h9 List.not_mem_nil) dX8_wordAmong_9
set_option maxHeartbeats 4000000 in
set_option maxRecDepth 100000 in
theorem c_X8_fail (l : Launch) (G : va_G) (k : Nat → ClassId) (sa : Nat → Nat) (sz : Nat) (t : Nat) (tp : Nat) : Met l yX8_fail vs_c_X8_fail ({ frames := 0, cells := 0, slots := 0, locals := 0 } : Room) (gP G k sa [.ref t, .int 0] [(t, .inr (8, [.ref tp, .int 0, .int 0, .int 0, .int (-1), .int 0]))] sz) (va_Qv (fun _ : Nat → Nat => True) (gO G (va_A ([(t, .inr (8, [.ref tp, .int 0, .int 0, .int 0, .int (-1), .int 0]))]) sz) (fun u => [(t, .inr (8, [.ref tp, .int 0, .int 0, .int 0, .int (-1), .int 1]))])) (va_A ([(t, .inr (8, [.ref tp, .int 0, .int 0, .int 0, .int (-1), .int 0]))]) sz)) 0 0 (va_A ([(t, .inr (8, [.ref tp, .int 0, .int 0, .int 0, .int (-1), .int 0]))]) sz) := by
  refine gz_met (cc := cX8_fail) (maxL := 2) (ret := none) (by decide) rfl (Nat.le_of_ble_eq_true rfl) ?_
  intro p_ e_ s_ m below_ meth_ c_ ls hx hb hr hml hts hown hlocks hin hP hE hD hA hS
  generalize hAe : va_A ([(t, .inr (8, [.ref tp, .int 0, .int 0, .int 0, .int (-1), .int 0]))]) sz = A at hD hA hS ⊢
  intro hl
  have hl : lv_has ls 2 [(0, .ref t), (1, .int 0)] := hl
  refine lv_aload_n hx hb dX8_fail_0 rfl (lv_at hl 0 rfl) ?_
  refine va_get (D := G) (ci := 8) (v := .int 0) (C := RX8) (T := TX8) (N := 6) hx hb hts j_c_X8_fail_8 hown hE.K hP 0 rfl rfl 5 (by decide) (hts (.fieldLink RX8 24 "GossamerGate$Tokens" "fault" "I") (List.mem_cons_of_mem _ (List.mem_append_left _ (List.mem_of_getElem? (i := 0) rfl)))) (fun _ h9 => h9) rfl dX8_fail_1 ?_
  refine lv_if_ne (tgt := 22) hx hb dX8_fail_4 (by decide) (fun h9 => absurd h9 (by decide)) (fun _ => ?_)
  refine lv_aload_n hx hb dX8_fail_7 rfl (lv_at hl 0 rfl) ?_
  refine lv_iconst (v := 1) hx hb dX8_fail_8 (by decide) ?_
  refine lv_bipush (v := 8) hx hb dX8_fail_9 (by decide) ?_
  refine lv_aload_n hx hb dX8_fail_11 rfl (lv_at hl 0 rfl) ?_
  refine va_get (D := G) (ci := 8) (v := .int 0) (C := RX8) (T := TX8) (N := 6) hx hb hts j_c_X8_fail_8 hown hE.K hP 0 rfl rfl 1 (by decide) (hts (.fieldLink RX8 9 "GossamerGate$Tokens" "start" "I") (List.mem_cons_of_mem _ (List.mem_append_left _ (List.mem_of_getElem? (i := 1) rfl)))) (fun _ h9 => h9) rfl dX8_fail_12 ?_
  refine lv_imul hx hb dX8_fail_15 ?_
  refine gz_ni (v := 0) (by decide) ?_
  refine lv_iadd hx hb dX8_fail_16 ?_
  refine gz_ni (v := 1) (by decide) ?_
  refine lv_iload_n hx hb dX8_fail_17 rfl (lv_at hl 1 rfl) ?_
  refine lv_iadd hx hb dX8_fail_18 ?_
  refine gz_ni (v := 1) (by decide) ?_
  refine va_put (D := G) (ci := 8) (v := .int 1) (ty := .int) (C := RX8) (T := TX8) (N := 6) hx hb hts j_c_X8_fail_8 tyX8 tyX8_ok nmX8 hown hE.K hP hD hS 0 rfl rfl 5 (by decide) (hts (.fieldLink RX8 24 "GossamerGate$Tokens" "fault" "I") (List.mem_cons_of_mem _ (List.mem_append_left _ (List.mem_of_getElem? (i := 0) rfl)))) (fun _ h9 => h9) rfl (by decide +kernel) rfl rfl (Nat.le_of_ble_eq_true rfl) dX8_fail_19 (fun H locs hP hD hS => ?_)
  have hP : va_P G vwCl [(t, .inr (8, [.ref tp, .int 0, .int 0, .int 0, .int (-1), .int 1]))] H := hP
  have hD : va_D A [(t, .inr (8, [.ref tp, .int 0, .int 0, .int 0, .int (-1), .int 1]))] := hD
  have hP9 := hP.sub (ws' := [(t, .inr (8, [.ref tp, .int 0, .int 0, .int 0, .int (-1), .int 1]))]) [0] rfl
  have hD9 := hD.sub (ws' := [(t, .inr (8, [.ref tp, .int 0, .int 0, .int 0, .int (-1), .int 1]))]) [0] (by decide) rfl
  exact W.vret hx hb hr (fun t ht hW => ⟨⟨(fun _ => 0), rfl, trivial, by rw [ht]; exact hP9, hD9⟩, hS.F ht⟩) hS.2.2 dX8_fail_22
set_option maxHeartbeats 4000000 in
set_option maxRecDepth 100000 in
theorem c_X8_takeSemicolon (l : Launch) (G : va_G) (k : Nat → ClassId) (sa : Nat → Nat) (t : Nat) (tp : Nat) : Met l yX8_takeSemicolon vs_c_X8_takeSemicolon ({ frames := 0, cells := 0, slots := 0, locals := 0 } : Room) (gR G k sa [.ref t] [(t, .inr (8, [.ref tp, .int 0, .int 0, .int 0, .int (-1), .int 1]))]) (vp_Si (fun r => r = 0)) 0 0 (fun _ => False) := by
  refine gz_metR (cc := cX8_takeSemicolon) (maxL := 1) (ret := (some .boolean)) (by decide) rfl (Nat.le_of_ble_eq_true rfl) ?_
  intro p_ e_ s_ m below_ meth_ c_ ls hx hb hr hml hts hown hlocks hP hE hl
  have hl : lv_has ls 1 [(0, .ref t)] := hl
  refine lv_aload_n hx hb dX8_takeSemicolon_0 rfl (lv_at hl 0 rfl) ?_
  refine va_get (D := G) (ci := 8) (v := .int 1) (C := RX8) (T := TX8) (N := 6) hx hb hts j_c_X8_takeSemicolon_8 hown hE.K hP 0 rfl rfl 5 (by decide) (hts (.fieldLink RX8 24 "GossamerGate$Tokens" "fault" "I") (List.mem_cons_of_mem _ (List.mem_append_left _ (List.mem_of_getElem? (i := 0) rfl)))) (fun _ h9 => h9) rfl dX8_takeSemicolon_1 ?_
  refine lv_if_ne (tgt := 14) hx hb dX8_takeSemicolon_4 (by decide) (fun _ => ?_) (fun h9 => absurd h9 (by decide))
  refine lv_iconst (v := 0) hx hb dX8_takeSemicolon_14 (by decide) ?_
  exact W.zret (v := 0) hx hb hr (by decide) (fun t ht hW => ⟨0, rfl, rfl, ht⟩) (fun _ h9 => absurd h9 List.not_mem_nil) dX8_takeSemicolon_15
set_option maxHeartbeats 4000000 in
set_option maxRecDepth 100000 in
theorem c_X1_readClause (l : Launch) (G : va_G) (k : Nat → ClassId) (sa : Nat → Nat) (sz : Nat) (c : Nat) (t : Nat) (tp : Nat) (d : Nat) : Met l yX1_readClause vs_c_X1_readClause ({ frames := 1, cells := 0, slots := 0, locals := 25 } : Room) (gP G k sa [.ref c, .ref d, .int 0] [(c, .inr (1, [.ref t])), (t, .inr (8, [.ref tp, .int 0, .int 0, .int 0, .int (-1), .int 0]))] sz) (va_Qv (fun _ : Nat → Nat => True) (gO G (va_A ([(c, .inr (1, [.ref t])), (t, .inr (8, [.ref tp, .int 0, .int 0, .int 0, .int (-1), .int 0]))]) sz) (fun u => [(c, .inr (1, [.ref t])), (t, .inr (8, [.ref tp, .int 0, .int 0, .int 0, .int (-1), .int 1]))])) (va_A ([(c, .inr (1, [.ref t])), (t, .inr (8, [.ref tp, .int 0, .int 0, .int 0, .int (-1), .int 0]))]) sz)) 0 0 (va_A ([(c, .inr (1, [.ref t])), (t, .inr (8, [.ref tp, .int 0, .int 0, .int 0, .int (-1), .int 0]))]) sz) := by
  refine gz_met (cc := cX1_readClause) (maxL := 4) (ret := none) (by decide) rfl (Nat.le_of_ble_eq_true rfl) ?_
  intro p_ e_ s_ m below_ meth_ c_ ls hx hb hr hml hts hown hlocks hin hP hE hD hA hS
  generalize hAe : va_A ([(c, .inr (1, [.ref t])), (t, .inr (8, [.ref tp, .int 0, .int 0, .int 0, .int (-1), .int 0]))]) sz = A at hD hA hS ⊢
  intro hl
  have hl : lv_has ls 4 [(0, .ref c), (1, .ref d), (2, .int 0)] := hl
  refine lv_aload_n hx hb dX1_readClause_0 rfl (lv_at hl 0 rfl) ?_
  refine va_get (D := G) (ci := 1) (v := .ref t) (C := RX1) (T := TX1) (N := 1) hx hb hts j_c_X1_readClause_1 hown hE.K hP 0 rfl rfl 0 (by decide) (hts (.fieldLink RX1 14 "GossamerGate$CountryReader" "tokens" "LGossamerGate$Tokens;") (List.mem_cons_of_mem _ (List.mem_append_left _ (List.mem_of_getElem? (i := 0) rfl)))) (fun _ h9 => h9) rfl dX1_readClause_1 ?_
  refine va_ldcS hx hb hown (hE.S 0 rfl) dX1_readClause_4 ?_
  refine vp_callSi (W.runV (As := [.ref (sa 0)]) (rest := []) ⟨hx, hb, hml, hown, hts⟩ (c_X8_wordAmong l G k sa t tp 0 (sa 0)) (cwV 1 hts g_c_X1_readClause_42_c_X8_wordAmong rfl rfl rfl (by decide +kernel) ⟨(Nat.le_of_ble_eq_true rfl), (Nat.le_of_ble_eq_true rfl)⟩) ⟨gR.bl, va_recv hE.K hP (ci := 8) (q0 := 1) rfl rfl, (gR.pre (wc := [(t, .inr (8, [.ref tp, .int 0, .int 0, .int 0, .int (-1), .int 0]))]) hE hP [1] rfl)⟩ rfl rfl hl.1 rfl (lv_room (Nat.le_of_ble_eq_true rfl)) dX1_readClause_6 ⟨(Nat.le_of_ble_eq_true rfl), (Nat.le_of_ble_eq_true rfl)⟩) (fun r_1 hr_1 => ?_)
  obtain rfl : r_1 = (-1) := hr_1
  refine lv_istore_n (lv' := [(3, .int (-1)), (0, .ref c), (1, .ref d), (2, .int 0)]) hx hb dX1_readClause_9 rfl hl (by decide) rfl (fun ls hl => ?_)
  refine lv_iload_n hx hb dX1_readClause_10 rfl (lv_at hl 0 rfl) ?_
  refine lv_iconst (v := (-1)) hx hb dX1_readClause_11 (by decide) ?_
  refine lv_icmp_ne (tgt := 24) hx hb dX1_readClause_12 (by decide) (fun h9 => absurd h9 (by decide)) (fun _ => ?_)
  refine lv_aload_n hx hb dX1_readClause_15 rfl (lv_at hl 1 rfl) ?_
  refine va_get (D := G) (ci := 1) (v := .ref t) (C := RX1) (T := TX1) (N := 1) hx hb hts j_c_X1_readClause_1 hown hE.K hP 0 rfl rfl 0 (by decide) (hts (.fieldLink RX1 14 "GossamerGate$CountryReader" "tokens" "LGossamerGate$Tokens;") (List.mem_cons_of_mem _ (List.mem_append_left _ (List.mem_of_getElem? (i := 0) rfl)))) (fun _ h9 => h9) rfl dX1_readClause_16 ?_
  refine lv_iconst (v := 0) hx hb dX1_readClause_19 (by decide) ?_
  refine gz_v (wc := [(t, .inr (8, [.ref tp, .int 0, .int 0, .int 0, .int (-1), .int 0]))]) (wr := [(c, .inr (1, [.ref t]))]) hP hD hS hA [1] [0] rfl rfl (by decide) (by decide) (va_runV (As := [.int 0]) (rest := []) ⟨hx, hb, hml, hown, hts⟩ (c_X8_fail l G k sa _ t tp) (cwV 1 hts g_c_X1_readClause_46_c_X8_fail rfl rfl rfl (by decide +kernel) ⟨(Nat.le_of_ble_eq_true rfl), (Nat.le_of_ble_eq_true rfl)⟩) ⟨gP.bl, va_recv hE.K hP (ci := 8) (q0 := 1) rfl rfl, (gP.pre (wc := [(t, .inr (8, [.ref tp, .int 0, .int 0, .int 0, .int (-1), .int 0]))]) hE hP hD [1] rfl (by decide))⟩ rfl rfl hl.1 rfl (lv_room (Nat.le_of_ble_eq_true rfl)) dX1_readClause_20 ⟨(Nat.le_of_ble_eq_true rfl), (Nat.le_of_ble_eq_true rfl)⟩) (fun u_2 H locs _ hP hD hS => ?_)
  have hP : va_P G vwCl [(c, .inr (1, [.ref t])), (t, .inr (8, [.ref tp, .int 0, .int 0, .int 0, .int (-1), .int 1]))] H := hP
  have hD : va_D A [(c, .inr (1, [.ref t])), (t, .inr (8, [.ref tp, .int 0, .int 0, .int 0, .int (-1), .int 1]))] := hD
  have hP9 := hP.sub (ws' := [(c, .inr (1, [.ref t])), (t, .inr (8, [.ref tp, .int 0, .int 0, .int 0, .int (-1), .int 1]))]) [0, 1] rfl
  have hD9 := hD.sub (ws' := [(c, .inr (1, [.ref t])), (t, .inr (8, [.ref tp, .int 0, .int 0, .int 0, .int (-1), .int 1]))]) [0, 1] (by decide) rfl
  exact W.vret hx hb hr (fun t ht hW => ⟨⟨(fun _ => 0), rfl, trivial, by rw [ht]; exact hP9, hD9⟩, hS.F ht⟩) hS.2.2 dX1_readClause_23
set_option maxHeartbeats 4000000 in
set_option maxRecDepth 100000 in
theorem c_X1_readInto (l : Launch) (G : va_G) (k : Nat → ClassId) (sa : Nat → Nat) (sz : Nat) (c : Nat) (t : Nat) (tp : Nat) (tb : Nat) (d : Nat) (f : Nat → Nat) : Met l yX1_readInto vs_c_X1_readInto ({ frames := 2, cells := 0, slots := 0, locals := 48 } : Room) (gP G k sa [.ref c, .ref d] [(c, .inr (1, [.ref t])), (t, .inr (8, [.ref tp, .int 0, .int 0, .int 0, .int (-1), .int 0])), (tp, .inr (7, [.ref tb, .int 0])), (d, .inr (0, [.int 0, .int 0, .ref (f 0), .ref (f 1), .ref (f 2), .ref (f 3)])), (f 0, .inl (k 0, 12, .inl (fun _ => 0))), (f 1, .inl (k 0, 12, .inl (fun _ => 0))), (f 2, .inl (k 0, 6, .inl (fun _ => 0))), (f 3, .inr (2, [.int 0, .int 0, .long 0, .ref (f 4), .ref (f 5), .ref (f 6), .ref (f 7)])), (f 4, .inl (k 0, 6, .inl (fun _ => 0))), (f 5, .inl (k 0, 6, .inl (fun _ => 0))), (f 6, .inl (k 0, 6, .inl (fun _ => 0))), (f 7, .inl (k 0, 6, .inl (fun _ => 0)))] sz) (va_Qi (fun r (_ : Nat → Nat) => r = 1) (gO G (va_A ([(c, .inr (1, [.ref t])), (t, .inr (8, [.ref tp, .int 0, .int 0, .int 0, .int (-1), .int 0])), (tp, .inr (7, [.ref tb, .int 0])), (d, .inr (0, [.int 0, .int 0, .ref (f 0), .ref (f 1), .ref (f 2), .ref (f 3)])), (f 0, .inl (k 0, 12, .inl (fun _ => 0))), (f 1, .inl (k 0, 12, .inl (fun _ => 0))), (f 2, .inl (k 0, 6, .inl (fun _ => 0))), (f 3, .inr (2, [.int 0, .int 0, .long 0, .ref (f 4), .ref (f 5), .ref (f 6), .ref (f 7)])), (f 4, .inl (k 0, 6, .inl (fun _ => 0))), (f 5, .inl (k 0, 6, .inl (fun _ => 0))), (f 6, .inl (k 0, 6, .inl (fun _ => 0))), (f 7, .inl (k 0, 6, .inl (fun _ => 0)))]) sz) (fun _ => [])) (va_A ([(c, .inr (1, [.ref t])), (t, .inr (8, [.ref tp, .int 0, .int 0, .int 0, .int (-1), .int 0])), (tp, .inr (7, [.ref tb, .int 0])), (d, .inr (0, [.int 0, .int 0, .ref (f 0), .ref (f 1), .ref (f 2), .ref (f 3)])), (f 0, .inl (k 0, 12, .inl (fun _ => 0))), (f 1, .inl (k 0, 12, .inl (fun _ => 0))), (f 2, .inl (k 0, 6, .inl (fun _ => 0))), (f 3, .inr (2, [.int 0, .int 0, .long 0, .ref (f 4), .ref (f 5), .ref (f 6), .ref (f 7)])), (f 4, .inl (k 0, 6, .inl (fun _ => 0))), (f 5, .inl (k 0, 6, .inl (fun _ => 0))), (f 6, .inl (k 0, 6, .inl (fun _ => 0))), (f 7, .inl (k 0, 6, .inl (fun _ => 0)))]) sz)) 0 0 (va_A ([(c, .inr (1, [.ref t])), (t, .inr (8, [.ref tp, .int 0, .int 0, .int 0, .int (-1), .int 0])), (tp, .inr (7, [.ref tb, .int 0])), (d, .inr (0, [.int 0, .int 0, .ref (f 0), .ref (f 1), .ref (f 2), .ref (f 3)])), (f 0, .inl (k 0, 12, .inl (fun _ => 0))), (f 1, .inl (k 0, 12, .inl (fun _ => 0))), (f 2, .inl (k 0, 6, .inl (fun _ => 0))), (f 3, .inr (2, [.int 0, .int 0, .long 0, .ref (f 4), .ref (f 5), .ref (f 6), .ref (f 7)])), (f 4, .inl (k 0, 6, .inl (fun _ => 0))), (f 5, .inl (k 0, 6, .inl (fun _ => 0))), (f 6, .inl (k 0, 6, .inl (fun _ => 0))), (f 7, .inl (k 0, 6, .inl (fun _ => 0)))]) sz) := by
  refine gz_met (cc := cX1_readInto) (maxL := 4) (ret := (some .int)) (by decide) rfl (Nat.le_of_ble_eq_true rfl) ?_
  intro p_ e_ s_ m below_ meth_ c_ ls hx hb hr hml hts hown hlocks hin hP hE hD hA hS
  generalize hAe : va_A ([(c, .inr (1, [.ref t])), (t, .inr (8, [.ref tp, .int 0, .int 0, .int 0, .int (-1), .int 0])), (tp, .inr (7, [.ref tb, .int 0])), (d, .inr (0, [.int 0, .int 0, .ref (f 0), .ref (f 1), .ref (f 2), .ref (f 3)])), (f 0, .inl (k 0, 12, .inl (fun _ => 0))), (f 1, .inl (k 0, 12, .inl (fun _ => 0))), (f 2, .inl (k 0, 6, .inl (fun _ => 0))), (f 3, .inr (2, [.int 0, .int 0, .long 0, .ref (f 4), .ref (f 5), .ref (f 6), .ref (f 7)])), (f 4, .inl (k 0, 6, .inl (fun _ => 0))), (f 5, .inl (k 0, 6, .inl (fun _ => 0))), (f 6, .inl (k 0, 6, .inl (fun _ => 0))), (f 7, .inl (k 0, 6, .inl (fun _ => 0)))]) sz = A at hD hA hS ⊢
  intro hl
  have hl : lv_has ls 4 [(0, .ref c), (1, .ref d)] := hl
  refine lv_aload_n hx hb dX1_readInto_0 rfl (lv_at hl 1 rfl) ?_
  refine gz_v (wc := [(d, .inr (0, [.int 0, .int 0, .ref (f 0), .ref (f 1), .ref (f 2), .ref (f 3)])), (f 0, .inl (k 0, 12, .inl (fun _ => 0))), (f 1, .inl (k 0, 12, .inl (fun _ => 0))), (f 2, .inl (k 0, 6, .inl (fun _ => 0))), (f 3, .inr (2, [.int 0, .int 0, .long 0, .ref (f 4), .ref (f 5), .ref (f 6), .ref (f 7)])), (f 4, .inl (k 0, 6, .inl (fun _ => 0))), (f 5, .inl (k 0, 6, .inl (fun _ => 0))), (f 6, .inl (k 0, 6, .inl (fun _ => 0))), (f 7, .inl (k 0, 6, .inl (fun _ => 0)))]) (wr := [(c, .inr (1, [.ref t])), (t, .inr (8, [.ref tp, .int 0, .int 0, .int 0, .int (-1), .int 0])), (tp, .inr (7, [.ref tb, .int 0]))]) hP hD hS hA [3, 4, 5, 6, 7, 8, 9, 10, 11] [0, 1, 2] rfl rfl (by decide) (by decide) (va_runV (As := []) (rest := []) ⟨hx, hb, hml, hown, hts⟩ (c_X0_clear l G k sa _ d f) (cwV 0 hts g_c_X1_readInto_20_c_X0_clear rfl rfl rfl (by decide +kernel) ⟨(Nat.le_of_ble_eq_true rfl), (Nat.le_of_ble_eq_true rfl)⟩) ⟨gP.bl, va_recv hE.K hP (ci := 0) (q0 := 3) rfl rfl, (gP.pre (wc := [(d, .inr (0, [.int 0, .int 0, .ref (f 0), .ref (f 1), .ref (f 2), .ref (f 3)])), (f 0, .inl (k 0, 12, .inl (fun _ => 0))), (f 1, .inl (k 0, 12, .inl (fun _ => 0))), (f 2, .inl (k 0, 6, .inl (fun _ => 0))), (f 3, .inr (2, [.int 0, .int 0, .long 0, .ref (f 4), .ref (f 5), .ref (f 6), .ref (f 7)])), (f 4, .inl (k 0, 6, .inl (fun _ => 0))), (f 5, .inl (k 0, 6, .inl (fun _ => 0))), (f 6, .inl (k 0, 6, .inl (fun _ => 0))), (f 7, .inl (k 0, 6, .inl (fun _ => 0)))]) hE hP hD [3, 4, 5, 6, 7, 8, 9, 10, 11] rfl (by decide))⟩ rfl rfl hl.1 rfl (lv_room (Nat.le_of_ble_eq_true rfl)) dX1_readInto_1 ⟨(Nat.le_of_ble_eq_true rfl), (Nat.le_of_ble_eq_true rfl)⟩) (fun u_1 H locs _ hP hD hS => ?_)
  have hP : va_P G vwCl [(c, .inr (1, [.ref t])), (t, .inr (8, [.ref tp, .int 0, .int 0, .int 0, .int (-1), .int 0])), (tp, .inr (7, [.ref tb, .int 0]))] H := hP
  have hD : va_D A [(c, .inr (1, [.ref t])), (t, .inr (8, [.ref tp, .int 0, .int 0, .int 0, .int (-1), .int 0])), (tp, .inr (7, [.ref tb, .int 0]))] := hD
  refine lv_aload_n hx hb dX1_readInto_4 rfl (lv_at hl 0 rfl) ?_
  refine va_get (D := G) (ci := 1) (v := .ref t) (C := RX1) (T := TX1) (N := 1) hx hb hts j_c_X1_readInto_1 hown hE.K hP 0 rfl rfl 0 (by decide) (hts (.fieldLink RX1 14 "GossamerGate$CountryReader" "tokens" "LGossamerGate$Tokens;") (List.mem_cons_of_mem _ (List.mem_append_left _ (List.mem_of_getElem? (i := 4) rfl)))) (fun _ h9 => h9) rfl dX1_readInto_5 ?_
  refine gz_v (wc := [(t, .inr (8, [.ref tp, .int 0, .int 0, .int 0, .int (-1), .int 0])), (tp, .inr (7, [.ref tb, .int 0]))]) (wr := [(c, .inr (1, [.ref t]))]) hP hD hS hA [1, 2] [0] rfl rfl (by decide) (by decide) (va_runV (As := []) (rest := []) ⟨hx, hb, hml, hown, hts⟩ (c_X8_restart l G k sa _ t tp tb) (cwV 0 hts g_c_X1_readInto_25_c_X8_restart rfl rfl rfl (by decide +kernel) ⟨(Nat.le_of_ble_eq_true rfl), (Nat.le_of_ble_eq_true rfl)⟩) ⟨gP.bl, va_recv hE.K hP (ci := 8) (q0 := 1) rfl rfl, (gP.pre (wc := [(t, .inr (8, [.ref tp, .int 0, .int 0, .int 0, .int (-1), .int 0])), (tp, .inr (7, [.ref tb, .int 0]))]) hE hP hD [1, 2] rfl (by decide))⟩ rfl rfl hl.1 rfl (lv_room (Nat.le_of_ble_eq_true rfl)) dX1_readInto_8 ⟨(Nat.le_of_ble_eq_true rfl), (Nat.le_of_ble_eq_true rfl)⟩) (fun u_2 H locs _ hP hD hS => ?_)
  have hP : va_P G vwCl [(c, .inr (1, [.ref t])), (t, .inr (8, [.ref tp, .int 0, .int 0, .int 0, .int (-1), .int 0])), (tp, .inr (7, [.ref tb, .int 0]))] H := hP
  have hD : va_D A [(c, .inr (1, [.ref t])), (t, .inr (8, [.ref tp, .int 0, .int 0, .int 0, .int (-1), .int 0])), (tp, .inr (7, [.ref tb, .int 0]))] := hD
  refine lv_iconst (v := 1) hx hb dX1_readInto_11 (by decide) ?_
  refine lv_istore_n (lv' := [(2, .int 1), (0, .ref c), (1, .ref d)]) hx hb dX1_readInto_12 rfl hl (by decide) rfl (fun ls hl => ?_)
  refine lv_iconst (v := 0) hx hb dX1_readInto_13 (by decide) ?_
  refine lv_istore_n (lv' := [(3, .int 0), (2, .int 1), (0, .ref c), (1, .ref d)]) hx hb dX1_readInto_14 rfl hl (by decide) rfl (fun ls hl => ?_)
  refine lv_iload_n hx hb dX1_readInto_15 rfl (lv_at hl 0 rfl) ?_
  refine lv_bipush (v := 40) hx hb dX1_readInto_16 (by decide) ?_
  refine lv_icmp_gt (tgt := 45) hx hb dX1_readInto_18 (by decide) (fun h9 => absurd h9 (by decide)) (fun _ => ?_)
  refine lv_iload_n hx hb dX1_readInto_21 rfl (lv_at hl 1 rfl) ?_
  refine lv_if_eq (tgt := 45) hx hb dX1_readInto_22 (by decide) (fun h9 => absurd h9 (by decide)) (fun _ => ?_)
  refine lv_aload_n hx hb dX1_readInto_25 rfl (lv_at hl 2 rfl) ?_
  refine lv_aload_n hx hb dX1_readInto_26 rfl (lv_at hl 3 rfl) ?_
  refine lv_iload_n hx hb dX1_readInto_27 rfl (lv_at hl 0 rfl) ?_
  refine gz_v (wc := [(c, .inr (1, [.ref t])), (t, .inr (8, [.ref tp, .int 0, .int 0, .int 0, .int (-1), .int 0]))]) (wr := [(tp, .inr (7, [.ref tb, .int 0]))]) hP hD hS hA [0, 1] [2] rfl rfl (by decide) (by decide) (va_runV (As := [.ref d, .int 0]) (rest := []) ⟨hx, hb, hml, hown, hts⟩ (c_X1_readClause l G k sa _ c t tp d) (cwV 2 hts g_c_X1_readInto_28_c_X1_readClause rfl rfl rfl (by decide +kernel) ⟨(Nat.le_of_ble_eq_true rfl), (Nat.le_of_ble_eq_true rfl)⟩) ⟨gP.bl, va_recv hE.K hP (ci := 1) (q0 := 0) rfl rfl, (gP.pre (wc := [(c, .inr (1, [.ref t])), (t, .inr (8, [.ref tp, .int 0, .int 0, .int 0, .int (-1), .int 0]))]) hE hP hD [0, 1] rfl (by decide))⟩ rfl rfl hl.1 rfl (lv_room (Nat.le_of_ble_eq_true rfl)) dX1_readInto_28 ⟨(Nat.le_of_ble_eq_true rfl), (Nat.le_of_ble_eq_true rfl)⟩) (fun u_3 H locs _ hP hD hS => ?_)
  have hP : va_P G vwCl [(tp, .inr (7, [.ref tb, .int 0])), (c, .inr (1, [.ref t])), (t, .inr (8, [.ref tp, .int 0, .int 0, .int 0, .int (-1), .int 1]))] H := hP
  have hD : va_D A [(tp, .inr (7, [.ref tb, .int 0])), (c, .inr (1, [.ref t])), (t, .inr (8, [.ref tp, .int 0, .int 0, .int 0, .int (-1), .int 1]))] := hD
  refine lv_aload_n hx hb dX1_readInto_31 rfl (lv_at hl 2 rfl) ?_
  refine va_get (D := G) (ci := 1) (v := .ref t) (C := RX1) (T := TX1) (N := 1) hx hb hts j_c_X1_readInto_1 hown hE.K hP 1 rfl rfl 0 (by decide) (hts (.fieldLink RX1 14 "GossamerGate$CountryReader" "tokens" "LGossamerGate$Tokens;") (List.mem_cons_of_mem _ (List.mem_append_left _ (List.mem_of_getElem? (i := 4) rfl)))) (fun _ h9 => h9) rfl dX1_readInto_32 ?_
  refine vp_callSi (W.runV (As := []) (rest := []) ⟨hx, hb, hml, hown, hts⟩ (c_X8_takeSemicolon l G k sa t tp) (cwV 0 hts g_c_X1_readInto_32_c_X8_takeSemicolon rfl rfl rfl (by decide +kernel) ⟨(Nat.le_of_ble_eq_true rfl), (Nat.le_of_ble_eq_true rfl)⟩) ⟨gR.bl, va_recv hE.K hP (ci := 8) (q0 := 2) rfl rfl, (gR.pre (wc := [(t, .inr (8, [.ref tp, .int 0, .int 0, .int 0, .int (-1), .int 1]))]) hE hP [2] rfl)⟩ rfl rfl hl.1 rfl (lv_room (Nat.le_of_ble_eq_true rfl)) dX1_readInto_35 ⟨(Nat.le_of_ble_eq_true rfl), (Nat.le_of_ble_eq_true rfl)⟩) (fun r_4 hr_4 => ?_)
  obtain rfl : r_4 = 0 := hr_4
  refine lv_istore_n (lv' := [(2, .int 0), (3, .int 0), (0, .ref c), (1, .ref d)]) hx hb dX1_readInto_38 rfl hl (by decide) rfl (fun ls hl => ?_)
  refine lv_iinc (v := 1) (lv' := [(3, .int 1), (2, .int 0), (0, .ref c), (1, .ref d)]) hx hb dX1_readInto_39 hl (k := 1) rfl (by decide) (by decide) rfl (fun ls hl => ?_)
  refine lv_goto (tgt := 15) hx hb dX1_readInto_42 (by decide) ?_
  refine lv_iload_n hx hb dX1_readInto_15 rfl (lv_at hl 0 rfl) ?_
  refine lv_bipush (v := 40) hx hb dX1_readInto_16 (by decide) ?_
  refine lv_icmp_gt (tgt := 45) hx hb dX1_readInto_18 (by decide) (fun h9 => absurd h9 (by decide)) (fun _ => ?_)
  refine lv_iload_n hx hb dX1_readInto_21 rfl (lv_at hl 1 rfl) ?_
  refine lv_if_eq (tgt := 45) hx hb dX1_readInto_22 (by decide) (fun _ => ?_) (fun h9 => absurd h9 (by decide))
  refine lv_aload_n hx hb dX1_readInto_45 rfl (lv_at hl 2 rfl) ?_
  refine va_get (D := G) (ci := 1) (v := .ref t) (C := RX1) (T := TX1) (N := 1) hx hb hts j_c_X1_readInto_1 hown hE.K hP 1 rfl rfl 0 (by decide) (hts (.fieldLink RX1 14 "GossamerGate$CountryReader" "tokens" "LGossamerGate$Tokens;") (List.mem_cons_of_mem _ (List.mem_append_left _ (List.mem_of_getElem? (i := 4) rfl)))) (fun _ h9 => h9) rfl dX1_readInto_46 ?_
  refine va_get (D := G) (ci := 8) (v := .int 1) (C := RX8) (T := TX8) (N := 6) hx hb hts j_c_X1_readInto_8 hown hE.K hP 2 rfl rfl 5 (by decide) (hts (.fieldLink RX1 36 "GossamerGate$Tokens" "fault" "I") (List.mem_cons_of_mem _ (List.mem_append_left _ (List.mem_of_getElem? (i := 16) rfl)))) (fun _ h9 => h9) rfl dX1_readInto_49 ?_
  have hP9 := hP.sub (ws' := []) [] rfl
  have hD9 := hD.sub (ws' := []) [] (by decide) rfl
  exact W.iret (v := 1) hx hb hr (fun t ht hW => ⟨⟨1, (fun _ => 0), rfl, rfl, by rw [ht]; exact hP9, hD9⟩, hS.F ht⟩) hS.2.2 dX1_readInto_52
set_option maxHeartbeats 4000000 in
set_option maxRecDepth 100000 in
theorem c_X10_country (l : Launch) (G : va_G) (k : Nat → ClassId) (sa : Nat → Nat) (sz : Nat) (h0 : Nat) (v : Nat → Nat) (f : Nat → Nat) : Met l yX10_country vs_c_X10_country ({ frames := 3, cells := 0, slots := 0, locals := 71 } : Room) (gP G k sa [.ref h0] [(h0, .inr (10, [.ref (v 0), .ref (v 1), .ref (v 2), .ref (v 3), .ref (v 4), .int 0, .ref (v 5), .ref (v 6), .ref (v 7), .ref (v 8), .ref (v 9), .ref (v 10), .ref (v 11), .ref (v 12), .ref (v 13), .int 0])), (v 1, .inr (1, [.ref (v 15)])), (v 15, .inr (8, [.ref (v 0), .int 0, .int 0, .int 0, .int (-1), .int 0])), (v 0, .inr (7, [.ref (v 14), .int 0])), (v 3, .inr (0, [.int 0, .int 0, .ref (f 0), .ref (f 1), .ref (f 2), .ref (f 3)])), (f 0, .inl (k 0, 12, .inl (fun _ => 0))), (f 1, .inl (k 0, 12, .inl (fun _ => 0))), (f 2, .inl (k 0, 6, .inl (fun _ => 0))), (f 3, .inr (2, [.int 0, .int 0, .long 0, .ref (f 4), .ref (f 5), .ref (f 6), .ref (f 7)])), (f 4, .inl (k 0, 6, .inl (fun _ => 0))), (f 5, .inl (k 0, 6, .inl (fun _ => 0))), (f 6, .inl (k 0, 6, .inl (fun _ => 0))), (f 7, .inl (k 0, 6, .inl (fun _ => 0)))] sz) (va_Qi (fun r (_ : Nat → Nat) => r = (-3)) (gO G (va_A ([(h0, .inr (10, [.ref (v 0), .ref (v 1), .ref (v 2), .ref (v 3), .ref (v 4), .int 0, .ref (v 5), .ref (v 6), .ref (v 7), .ref (v 8), .ref (v 9), .ref (v 10), .ref (v 11), .ref (v 12), .ref (v 13), .int 0])), (v 1, .inr (1, [.ref (v 15)])), (v 15, .inr (8, [.ref (v 0), .int 0, .int 0, .int 0, .int (-1), .int 0])), (v 0, .inr (7, [.ref (v 14), .int 0])), (v 3, .inr (0, [.int 0, .int 0, .ref (f 0), .ref (f 1), .ref (f 2), .ref (f 3)])), (f 0, .inl (k 0, 12, .inl (fun _ => 0))), (f 1, .inl (k 0, 12, .inl (fun _ => 0))), (f 2, .inl (k 0, 6, .inl (fun _ => 0))), (f 3, .inr (2, [.int 0, .int 0, .long 0, .ref (f 4), .ref (f 5), .ref (f 6), .ref (f 7)])), (f 4, .inl (k 0, 6, .inl (fun _ => 0))), (f 5, .inl (k 0, 6, .inl (fun _ => 0))), (f 6, .inl (k 0, 6, .inl (fun _ => 0))), (f 7, .inl (k 0, 6, .inl (fun _ => 0)))]) sz) (fun _ => [])) (va_A ([(h0, .inr (10, [.ref (v 0), .ref (v 1), .ref (v 2), .ref (v 3), .ref (v 4), .int 0, .ref (v 5), .ref (v 6), .ref (v 7), .ref (v 8), .ref (v 9), .ref (v 10), .ref (v 11), .ref (v 12), .ref (v 13), .int 0])), (v 1, .inr (1, [.ref (v 15)])), (v 15, .inr (8, [.ref (v 0), .int 0, .int 0, .int 0, .int (-1), .int 0])), (v 0, .inr (7, [.ref (v 14), .int 0])), (v 3, .inr (0, [.int 0, .int 0, .ref (f 0), .ref (f 1), .ref (f 2), .ref (f 3)])), (f 0, .inl (k 0, 12, .inl (fun _ => 0))), (f 1, .inl (k 0, 12, .inl (fun _ => 0))), (f 2, .inl (k 0, 6, .inl (fun _ => 0))), (f 3, .inr (2, [.int 0, .int 0, .long 0, .ref (f 4), .ref (f 5), .ref (f 6), .ref (f 7)])), (f 4, .inl (k 0, 6, .inl (fun _ => 0))), (f 5, .inl (k 0, 6, .inl (fun _ => 0))), (f 6, .inl (k 0, 6, .inl (fun _ => 0))), (f 7, .inl (k 0, 6, .inl (fun _ => 0)))]) sz)) 0 0 (va_A ([(h0, .inr (10, [.ref (v 0), .ref (v 1), .ref (v 2), .ref (v 3), .ref (v 4), .int 0, .ref (v 5), .ref (v 6), .ref (v 7), .ref (v 8), .ref (v 9), .ref (v 10), .ref (v 11), .ref (v 12), .ref (v 13), .int 0])), (v 1, .inr (1, [.ref (v 15)])), (v 15, .inr (8, [.ref (v 0), .int 0, .int 0, .int 0, .int (-1), .int 0])), (v 0, .inr (7, [.ref (v 14), .int 0])), (v 3, .inr (0, [.int 0, .int 0, .ref (f 0), .ref (f 1), .ref (f 2), .ref (f 3)])), (f 0, .inl (k 0, 12, .inl (fun _ => 0))), (f 1, .inl (k 0, 12, .inl (fun _ => 0))), (f 2, .inl (k 0, 6, .inl (fun _ => 0))), (f 3, .inr (2, [.int 0, .int 0, .long 0, .ref (f 4), .ref (f 5), .ref (f 6), .ref (f 7)])), (f 4, .inl (k 0, 6, .inl (fun _ => 0))), (f 5, .inl (k 0, 6, .inl (fun _ => 0))), (f 6, .inl (k 0, 6, .inl (fun _ => 0))), (f 7, .inl (k 0, 6, .inl (fun _ => 0)))]) sz) := by
  refine gz_met (cc := cX10_country) (maxL := 2) (ret := (some .int)) (by decide) rfl (Nat.le_of_ble_eq_true rfl) ?_
  intro p_ e_ s_ m below_ meth_ c_ ls hx hb hr hml hts hown hlocks hin hP hE hD hA hS
  generalize hAe : va_A ([(h0, .inr (10, [.ref (v 0), .ref (v 1), .ref (v 2), .ref (v 3), .ref (v 4), .int 0, .ref (v 5), .ref (v 6), .ref (v 7), .ref (v 8), .ref (v 9), .ref (v 10), .ref (v 11), .ref (v 12), .ref (v 13), .int 0])), (v 1, .inr (1, [.ref (v 15)])), (v 15, .inr (8, [.ref (v 0), .int 0, .int 0, .int 0, .int (-1), .int 0])), (v 0, .inr (7, [.ref (v 14), .int 0])), (v 3, .inr (0, [.int 0, .int 0, .ref (f 0), .ref (f 1), .ref (f 2), .ref (f 3)])), (f 0, .inl (k 0, 12, .inl (fun _ => 0))), (f 1, .inl (k 0, 12, .inl (fun _ => 0))), (f 2, .inl (k 0, 6, .inl (fun _ => 0))), (f 3, .inr (2, [.int 0, .int 0, .long 0, .ref (f 4), .ref (f 5), .ref (f 6), .ref (f 7)])), (f 4, .inl (k 0, 6, .inl (fun _ => 0))), (f 5, .inl (k 0, 6, .inl (fun _ => 0))), (f 6, .inl (k 0, 6, .inl (fun _ => 0))), (f 7, .inl (k 0, 6, .inl (fun _ => 0)))]) sz = A at hD hA hS ⊢
  intro hl
  have hl : lv_has ls 2 [(0, .ref h0)] := hl
  refine lv_aload_n hx hb dX10_country_0 rfl (lv_at hl 0 rfl) ?_
  refine va_get (D := G) (ci := 10) (v := .ref (v 1)) (C := RX10) (T := TX10) (N := 16) hx hb hts j_c_X10_country_10 hown hE.K hP 0 rfl rfl 1 (by decide) (hts (.fieldLink RX10 21 "GossamerGate" "countryReader" "LGossamerGate$CountryReader;") (List.mem_cons_of_mem _ (List.mem_append_left _ (List.mem_of_getElem? (i := 0) rfl)))) (fun _ h9 => h9) rfl dX10_country_1 ?_
  refine lv_aload_n hx hb dX10_country_4 rfl (lv_at hl 0 rfl) ?_
  refine va_get (D := G) (ci := 10) (v := .ref (v 3)) (C := RX10) (T := TX10) (N := 16) hx hb hts j_c_X10_country_10 hown hE.K hP 0 rfl rfl 3 (by decide) (hts (.fieldLink RX10 35 "GossamerGate" "draft" "LGossamerGate$Country;") (List.mem_cons_of_mem _ (List.mem_append_left _ (List.mem_of_getElem? (i := 1) rfl)))) (fun _ h9 => h9) rfl dX10_country_5 ?_
  refine gz_i (wc := [((v 1), .inr (1, [.ref (v 15)])), ((v 15), .inr (8, [.ref (v 0), .int 0, .int 0, .int 0, .int (-1), .int 0])), ((v 0), .inr (7, [.ref (v 14), .int 0])), ((v 3), .inr (0, [.int 0, .int 0, .ref (f 0), .ref (f 1), .ref (f 2), .ref (f 3)])), (f 0, .inl (k 0, 12, .inl (fun _ => 0))), (f 1, .inl (k 0, 12, .inl (fun _ => 0))), (f 2, .inl (k 0, 6, .inl (fun _ => 0))), (f 3, .inr (2, [.int 0, .int 0, .long 0, .ref (f 4), .ref (f 5), .ref (f 6), .ref (f 7)])), (f 4, .inl (k 0, 6, .inl (fun _ => 0))), (f 5, .inl (k 0, 6, .inl (fun _ => 0))), (f 6, .inl (k 0, 6, .inl (fun _ => 0))), (f 7, .inl (k 0, 6, .inl (fun _ => 0)))]) (wr := [(h0, .inr (10, [.ref (v 0), .ref (v 1), .ref (v 2), .ref (v 3), .ref (v 4), .int 0, .ref (v 5), .ref (v 6), .ref (v 7), .ref (v 8), .ref (v 9), .ref (v 10), .ref (v 11), .ref (v 12), .ref (v 13), .int 0]))]) hP hD hS hA [1, 2, 3, 4, 5, 6, 7, 8, 9, 10, 11, 12] [0] rfl rfl (by decide) (by decide) (va_runV (As := [.ref (v 3)]) (rest := []) ⟨hx, hb, hml, hown, hts⟩ (c_X1_readInto l G k sa _ (v 1) (v 15) (v 0) (v 14) (v 3) f) (cwV 1 hts g_c_X10_country_114_c_X1_readInto rfl rfl rfl (by decide +kernel) ⟨(Nat.le_of_ble_eq_true rfl), (Nat.le_of_ble_eq_true rfl)⟩) ⟨gP.bl, va_recv hE.K hP (ci := 1) (q0 := 1) rfl rfl, (gP.pre (wc := [((v 1), .inr (1, [.ref (v 15)])), ((v 15), .inr (8, [.ref (v 0), .int 0, .int 0, .int 0, .int (-1), .int 0])), ((v 0), .inr (7, [.ref (v 14), .int 0])), ((v 3), .inr (0, [.int 0, .int 0, .ref (f 0), .ref (f 1), .ref (f 2), .ref (f 3)])), (f 0, .inl (k 0, 12, .inl (fun _ => 0))), (f 1, .inl (k 0, 12, .inl (fun _ => 0))), (f 2, .inl (k 0, 6, .inl (fun _ => 0))), (f 3, .inr (2, [.int 0, .int 0, .long 0, .ref (f 4), .ref (f 5), .ref (f 6), .ref (f 7)])), (f 4, .inl (k 0, 6, .inl (fun _ => 0))), (f 5, .inl (k 0, 6, .inl (fun _ => 0))), (f 6, .inl (k 0, 6, .inl (fun _ => 0))), (f 7, .inl (k 0, 6, .inl (fun _ => 0)))]) hE hP hD [1, 2, 3, 4, 5, 6, 7, 8, 9, 10, 11, 12] rfl (by decide))⟩ rfl rfl hl.1 rfl (lv_room (Nat.le_of_ble_eq_true rfl)) dX10_country_8 ⟨(Nat.le_of_ble_eq_true rfl), (Nat.le_of_ble_eq_true rfl)⟩) (fun r_2 u_1 H locs hr_2 hP hD hS => ?_)
  have hP : va_P G vwCl [(h0, .inr (10, [.ref (v 0), .ref (v 1), .ref (v 2), .ref (v 3), .ref (v 4), .int 0, .ref (v 5), .ref (v 6), .ref (v 7), .ref (v 8), .ref (v 9), .ref (v 10), .ref (v 11), .ref (v 12), .ref (v 13), .int 0]))] H := hP
  have hD : va_D A [(h0, .inr (10, [.ref (v 0), .ref (v 1), .ref (v 2), .ref (v 3), .ref (v 4), .int 0, .ref (v 5), .ref (v 6), .ref (v 7), .ref (v 8), .ref (v 9), .ref (v 10), .ref (v 11), .ref (v 12), .ref (v 13), .int 0]))] := hD
  obtain rfl : r_2 = 1 := hr_2
  refine lv_istore_n (lv' := [(1, .int 1), (0, .ref h0)]) hx hb dX10_country_11 rfl hl (by decide) rfl (fun ls hl => ?_)
  refine lv_iload_n hx hb dX10_country_12 rfl (lv_at hl 0 rfl) ?_
  refine lv_if_eq (tgt := 21) hx hb dX10_country_13 (by decide) (fun h9 => absurd h9 (by decide)) (fun _ => ?_)
  refine lv_bipush (v := (-2)) hx hb dX10_country_16 (by decide) ?_
  refine lv_iload_n hx hb dX10_country_18 rfl (lv_at hl 0 rfl) ?_
  refine lv_isub hx hb dX10_country_19 ?_
  refine gz_ni (v := (-3)) (by decide) ?_
  have hP9 := hP.sub (ws' := []) [] rfl
  have hD9 := hD.sub (ws' := []) [] (by decide) rfl
  exact W.iret (v := (-3)) hx hb hr (fun t ht hW => ⟨⟨(-3), (fun _ => 0), rfl, rfl, by rw [ht]; exact hP9, hD9⟩, hS.F ht⟩) hS.2.2 dX10_country_20
set_option maxHeartbeats 4000000 in
set_option maxRecDepth 100000 in
theorem c_X5_clear (l : Launch) (G : va_G) (k : Nat → ClassId) (sa : Nat → Nat) (sz : Nat) (b : Nat) (f : Nat → Nat) : Met l yX5_clear vs_c_X5_clear ({ frames := 0, cells := 0, slots := 0, locals := 0 } : Room) (gP G k sa [.ref b] [(b, .inr (5, [.ref (f 0), .ref (f 1), .ref (f 2), .ref (f 3), .int 0, .int 0]))] sz) (va_Qv (fun _ : Nat → Nat => True) (gO G (va_A ([(b, .inr (5, [.ref (f 0), .ref (f 1), .ref (f 2), .ref (f 3), .int 0, .int 0]))]) sz) (fun u => [(b, .inr (5, [.ref (f 0), .ref (f 1), .ref (f 2), .ref (f 3), .int 0, .int 0]))])) (va_A ([(b, .inr (5, [.ref (f 0), .ref (f 1), .ref (f 2), .ref (f 3), .int 0, .int 0]))]) sz)) 0 0 (va_A ([(b, .inr (5, [.ref (f 0), .ref (f 1), .ref (f 2), .ref (f 3), .int 0, .int 0]))]) sz) := by
  refine gz_met (cc := cX5_clear) (maxL := 1) (ret := none) (by decide) rfl (Nat.le_of_ble_eq_true rfl) ?_
  intro p_ e_ s_ m below_ meth_ c_ ls hx hb hr hml hts hown hlocks hin hP hE hD hA hS
  generalize hAe : va_A ([(b, .inr (5, [.ref (f 0), .ref (f 1), .ref (f 2), .ref (f 3), .int 0, .int 0]))]) sz = A at hD hA hS ⊢
  intro hl
  have hl : lv_has ls 1 [(0, .ref b)] := hl
  refine lv_aload_n hx hb dX5_clear_0 rfl (lv_at hl 0 rfl) ?_
  refine lv_iconst (v := 0) hx hb dX5_clear_1 (by decide) ?_
  refine va_put (D := G) (ci := 5) (v := .int 0) (ty := .int) (C := RX5) (T := TX5) (N := 6) hx hb hts j_c_X5_clear_5 tyX5 tyX5_ok nmX5 hown hE.K hP hD hS 0 rfl rfl 4 (by decide) (hts (.fieldLink RX5 25 "GossamerGate$Rule" "clauses" "I") (List.mem_cons_of_mem _ (List.mem_append_left _ (List.mem_of_getElem? (i := 0) rfl)))) (fun _ h9 => h9) rfl (by decide +kernel) rfl rfl (Nat.le_of_ble_eq_true rfl) dX5_clear_2 (fun H locs hP hD hS => ?_)
  have hP : va_P G vwCl [(b, .inr (5, [.ref (f 0), .ref (f 1), .ref (f 2), .ref (f 3), .int 0, .int 0]))] H := hP
  have hD : va_D A [(b, .inr (5, [.ref (f 0), .ref (f 1), .ref (f 2), .ref (f 3), .int 0, .int 0]))] := hD
  refine lv_aload_n hx hb dX5_clear_5 rfl (lv_at hl 0 rfl) ?_
  refine lv_iconst (v := 0) hx hb dX5_clear_6 (by decide) ?_
  refine va_put (D := G) (ci := 5) (v := .int 0) (ty := .int) (C := RX5) (T := TX5) (N := 6) hx hb hts j_c_X5_clear_5 tyX5 tyX5_ok nmX5 hown hE.K hP hD hS 0 rfl rfl 5 (by decide) (hts (.fieldLink RX5 29 "GossamerGate$Rule" "length" "I") (List.mem_cons_of_mem _ (List.mem_append_left _ (List.mem_of_getElem? (i := 1) rfl)))) (fun _ h9 => h9) rfl (by decide +kernel) rfl rfl (Nat.le_of_ble_eq_true rfl) dX5_clear_7 (fun H locs hP hD hS => ?_)
  have hP : va_P G vwCl [(b, .inr (5, [.ref (f 0), .ref (f 1), .ref (f 2), .ref (f 3), .int 0, .int 0]))] H := hP
  have hD : va_D A [(b, .inr (5, [.ref (f 0), .ref (f 1), .ref (f 2), .ref (f 3), .int 0, .int 0]))] := hD
  have hP9 := hP.sub (ws' := [(b, .inr (5, [.ref (f 0), .ref (f 1), .ref (f 2), .ref (f 3), .int 0, .int 0]))]) [0] rfl
  have hD9 := hD.sub (ws' := [(b, .inr (5, [.ref (f 0), .ref (f 1), .ref (f 2), .ref (f 3), .int 0, .int 0]))]) [0] (by decide) rfl
  exact W.vret hx hb hr (fun t ht hW => ⟨⟨(fun _ => 0), rfl, trivial, by rw [ht]; exact hP9, hD9⟩, hS.F ht⟩) hS.2.2 dX5_clear_10
set_option maxHeartbeats 4000000 in
set_option maxRecDepth 100000 in
theorem c_X6_readValue (l : Launch) (G : va_G) (k : Nat → ClassId) (sa : Nat → Nat) (sz : Nat) (c : Nat) (b : Nat) (t : Nat) (tp : Nat) : Met l yX6_readValue vs_c_X6_readValue ({ frames := 0, cells := 0, slots := 0, locals := 0 } : Room) (gP G k sa [.ref c] [(c, .inr (6, [.ref t, .ref b, .int 0])), (t, .inr (8, [.ref tp, .int 0, .int 0, .int 0, .int (-1), .int 1]))] sz) (va_Qv (fun _ : Nat → Nat => True) (gO G (va_A ([(c, .inr (6, [.ref t, .ref b, .int 0])), (t, .inr (8, [.ref tp, .int 0, .int 0, .int 0, .int (-1), .int 1]))]) sz) (fun u => [(c, .inr (6, [.ref t, .ref b, .int 0])), (t, .inr (8, [.ref tp, .int 0, .int 0, .int 0, .int (-1), .int 1]))])) (va_A ([(c, .inr (6, [.ref t, .ref b, .int 0])), (t, .inr (8, [.ref tp, .int 0, .int 0, .int 0, .int (-1), .int 1]))]) sz)) 0 0 (va_A ([(c, .inr (6, [.ref t, .ref b, .int 0])), (t, .inr (8, [.ref tp, .int 0, .int 0, .int 0, .int (-1), .int 1]))]) sz) := by
  refine gz_met (cc := cX6_readValue) (maxL := 2) (ret := none) (by decide) rfl (Nat.le_of_ble_eq_true rfl) ?_
  intro p_ e_ s_ m below_ meth_ c_ ls hx hb hr hml hts hown hlocks hin hP hE hD hA hS
  generalize hAe : va_A ([(c, .inr (6, [.ref t, .ref b, .int 0])), (t, .inr (8, [.ref tp, .int 0, .int 0, .int 0, .int (-1), .int 1]))]) sz = A at hD hA hS ⊢
  intro hl
  have hl : lv_has ls 2 [(0, .ref c)] := hl
  refine lv_aload_n hx hb dX6_readValue_0 rfl (lv_at hl 0 rfl) ?_
  refine va_get (D := G) (ci := 6) (v := .ref t) (C := RX6) (T := TX6) (N := 3) hx hb hts j_c_X6_readValue_6 hown hE.K hP 0 rfl rfl 0 (by decide) (hts (.fieldLink RX6 27 "GossamerGate$RuleReader" "tokens" "LGossamerGate$Tokens;") (List.mem_cons_of_mem _ (List.mem_append_left _ (List.mem_of_getElem? (i := 0) rfl)))) (fun _ h9 => h9) rfl dX6_readValue_1 ?_
  refine va_get (D := G) (ci := 8) (v := .int 1) (C := RX8) (T := TX8) (N := 6) hx hb hts j_c_X6_readValue_8 hown hE.K hP 1 rfl rfl 5 (by decide) (hts (.fieldLink RX6 56 "GossamerGate$Tokens" "fault" "I") (List.mem_cons_of_mem _ (List.mem_append_left _ (List.mem_of_getElem? (i := 1) rfl)))) (fun _ h9 => h9) rfl dX6_readValue_4 ?_
  refine lv_if_eq (tgt := 11) hx hb dX6_readValue_7 (by decide) (fun h9 => absurd h9 (by decide)) (fun _ => ?_)
  have hP9 := hP.sub (ws' := [(c, .inr (6, [.ref t, .ref b, .int 0])), (t, .inr (8, [.ref tp, .int 0, .int 0, .int 0, .int (-1), .int 1]))]) [0, 1] rfl
  have hD9 := hD.sub (ws' := [(c, .inr (6, [.ref t, .ref b, .int 0])), (t, .inr (8, [.ref tp, .int 0, .int 0, .int 0, .int (-1), .int 1]))]) [0, 1] (by decide) rfl
  exact W.vret hx hb hr (fun t ht hW => ⟨⟨(fun _ => 0), rfl, trivial, by rw [ht]; exact hP9, hD9⟩, hS.F ht⟩) hS.2.2 dX6_readValue_10
set_option maxHeartbeats 4000000 in
set_option maxRecDepth 100000 in
theorem c_X6_readSum (l : Launch) (G : va_G) (k : Nat → ClassId) (sa : Nat → Nat) (sz : Nat) (c : Nat) (b : Nat) (t : Nat) (tp : Nat) : Met l yX6_readSum vs_c_X6_readSum ({ frames := 1, cells := 0, slots := 0, locals := 21 } : Room) (gP G k sa [.ref c] [(c, .inr (6, [.ref t, .ref b, .int 0])), (t, .inr (8, [.ref tp, .int 0, .int 0, .int 0, .int (-1), .int 1]))] sz) (va_Qv (fun _ : Nat → Nat => True) (gO G (va_A ([(c, .inr (6, [.ref t, .ref b, .int 0])), (t, .inr (8, [.ref tp, .int 0, .int 0, .int 0, .int (-1), .int 1]))]) sz) (fun u => [(c, .inr (6, [.ref t, .ref b, .int 0])), (t, .inr (8, [.ref tp, .int 0, .int 0, .int 0, .int (-1), .int 1]))])) (va_A ([(c, .inr (6, [.ref t, .ref b, .int 0])), (t, .inr (8, [.ref tp, .int 0, .int 0, .int 0, .int (-1), .int 1]))]) sz)) 0 0 (va_A ([(c, .inr (6, [.ref t, .ref b, .int 0])), (t, .inr (8, [.ref tp, .int 0, .int 0, .int 0, .int (-1), .int 1]))]) sz) := by
  refine gz_met (cc := cX6_readSum) (maxL := 4) (ret := none) (by decide) rfl (Nat.le_of_ble_eq_true rfl) ?_
  intro p_ e_ s_ m below_ meth_ c_ ls hx hb hr hml hts hown hlocks hin hP hE hD hA hS
  generalize hAe : va_A ([(c, .inr (6, [.ref t, .ref b, .int 0])), (t, .inr (8, [.ref tp, .int 0, .int 0, .int 0, .int (-1), .int 1]))]) sz = A at hD hA hS ⊢
  intro hl
  have hl : lv_has ls 4 [(0, .ref c)] := hl
  refine lv_iconst (v := (-1)) hx hb dX6_readSum_0 (by decide) ?_
  refine lv_istore_n (lv' := [(1, .int (-1)), (0, .ref c)]) hx hb dX6_readSum_1 rfl hl (by decide) rfl (fun ls hl => ?_)
  refine lv_aload_n hx hb dX6_readSum_2 rfl (lv_at hl 1 rfl) ?_
  refine gz_v (wc := [(c, .inr (6, [.ref t, .ref b, .int 0])), (t, .inr (8, [.ref tp, .int 0, .int 0, .int 0, .int (-1), .int 1]))]) (wr := []) hP hD hS hA [0, 1] [] rfl rfl (by decide) (by decide) (va_runV (As := []) (rest := []) ⟨hx, hb, hml, hown, hts⟩ (c_X6_readValue l G k sa _ c b t tp) (cwV 0 hts g_c_X6_readSum_112_c_X6_readValue rfl rfl rfl (by decide +kernel) ⟨(Nat.le_of_ble_eq_true rfl), (Nat.le_of_ble_eq_true rfl)⟩) ⟨gP.bl, va_recv hE.K hP (ci := 6) (q0 := 0) rfl rfl, (gP.pre (wc := [(c, .inr (6, [.ref t, .ref b, .int 0])), (t, .inr (8, [.ref tp, .int 0, .int 0, .int 0, .int (-1), .int 1]))]) hE hP hD [0, 1] rfl (by decide))⟩ rfl rfl hl.1 rfl (lv_room (Nat.le_of_ble_eq_true rfl)) dX6_readSum_3 ⟨(Nat.le_of_ble_eq_true rfl), (Nat.le_of_ble_eq_true rfl)⟩) (fun u_1 H locs _ hP hD hS => ?_)
  have hP : va_P G vwCl [(c, .inr (6, [.ref t, .ref b, .int 0])), (t, .inr (8, [.ref tp, .int 0, .int 0, .int 0, .int (-1), .int 1]))] H := hP
  have hD : va_D A [(c, .inr (6, [.ref t, .ref b, .int 0])), (t, .inr (8, [.ref tp, .int 0, .int 0, .int 0, .int (-1), .int 1]))] := hD
  refine lv_iconst (v := 0) hx hb dX6_readSum_6 (by decide) ?_
  refine lv_istore_n (lv' := [(2, .int 0), (1, .int (-1)), (0, .ref c)]) hx hb dX6_readSum_7 rfl hl (by decide) rfl (fun ls hl => ?_)
  refine lv_iload_n hx hb dX6_readSum_8 rfl (lv_at hl 0 rfl) ?_
  refine lv_sipush (v := 400) hx hb dX6_readSum_9 (by decide) ?_
  refine lv_icmp_ge (tgt := 118) hx hb dX6_readSum_12 (by decide) (fun h9 => absurd h9 (by decide)) (fun _ => ?_)
  refine lv_aload_n hx hb dX6_readSum_15 rfl (lv_at hl 2 rfl) ?_
  refine va_get (D := G) (ci := 6) (v := .ref t) (C := RX6) (T := TX6) (N := 3) hx hb hts j_c_X6_readSum_6 hown hE.K hP 0 rfl rfl 0 (by decide) (hts (.fieldLink RX6 27 "GossamerGate$RuleReader" "tokens" "LGossamerGate$Tokens;") (List.mem_cons_of_mem _ (List.mem_append_left _ (List.mem_of_getElem? (i := 4) rfl)))) (fun _ h9 => h9) rfl dX6_readSum_16 ?_
  refine va_get (D := G) (ci := 8) (v := .int 1) (C := RX8) (T := TX8) (N := 6) hx hb hts j_c_X6_readSum_8 hown hE.K hP 1 rfl rfl 5 (by decide) (hts (.fieldLink RX6 56 "GossamerGate$Tokens" "fault" "I") (List.mem_cons_of_mem _ (List.mem_append_left _ (List.mem_of_getElem? (i := 5) rfl)))) (fun _ h9 => h9) rfl dX6_readSum_19 ?_
  refine lv_if_ne (tgt := 118) hx hb dX6_readSum_22 (by decide) (fun _ => ?_) (fun h9 => absurd h9 (by decide))
  refine lv_iload_n hx hb dX6_readSum_118 rfl (lv_at hl 1 rfl) ?_
  refine lv_iconst (v := (-1)) hx hb dX6_readSum_119 (by decide) ?_
  refine lv_icmp_eq (tgt := 131) hx hb dX6_readSum_120 (by decide) (fun _ => ?_) (fun h9 => absurd h9 (by decide))
  have hP9 := hP.sub (ws' := [(c, .inr (6, [.ref t, .ref b, .int 0])), (t, .inr (8, [.ref tp, .int 0, .int 0, .int 0, .int (-1), .int 1]))]) [0, 1] rfl
  have hD9 := hD.sub (ws' := [(c, .inr (6, [.ref t, .ref b, .int 0])), (t, .inr (8, [.ref tp, .int 0, .int 0, .int 0, .int (-1), .int 1]))]) [0, 1] (by decide) rfl
  exact W.vret hx hb hr (fun t ht hW => ⟨⟨(fun _ => 0), rfl, trivial, by rw [ht]; exact hP9, hD9⟩, hS.F ht⟩) hS.2.2 dX6_readSum_131
set_option maxHeartbeats 4000000 in
set_option maxRecDepth 100000 in
theorem c_X5_closeClause (l : Launch) (G : va_G) (k : Nat → ClassId) (sa : Nat → Nat) (sz : Nat) (b : Nat) (f : Nat → Nat) : Met l yX5_closeClause vs_c_X5_closeClause ({ frames := 0, cells := 0, slots := 0, locals := 0 } : Room) (gP G k sa [.ref b, .int 0] [(b, .inr (5, [.ref (f 0), .ref (f 1), .ref (f 2), .ref (f 3), .int 0, .int 0])), (f 1, .inl (k 0, 12, .inl (fun _ => 0))), (f 2, .inl (k 0, 12, .inl (fun _ => 0)))] sz) (va_Qv (fun _ : Nat → Nat => True) (gO G (va_A ([(b, .inr (5, [.ref (f 0), .ref (f 1), .ref (f 2), .ref (f 3), .int 0, .int 0])), (f 1, .inl (k 0, 12, .inl (fun _ => 0))), (f 2, .inl (k 0, 12, .inl (fun _ => 0)))]) sz) (fun _ => [])) (va_A ([(b, .inr (5, [.ref (f 0), .ref (f 1), .ref (f 2), .ref (f 3), .int 0, .int 0])), (f 1, .inl (k 0, 12, .inl (fun _ => 0))), (f 2, .inl (k 0, 12, .inl (fun _ => 0)))]) sz)) 0 0 (va_A ([(b, .inr (5, [.ref (f 0), .ref (f 1), .ref (f 2), .ref (f 3), .int 0, .int 0])), (f 1, .inl (k 0, 12, .inl (fun _ => 0))), (f 2, .inl (k 0, 12, .inl (fun _ => 0)))]) sz) := by
  refine gz_met (cc := cX5_closeClause) (maxL := 2) (ret := none) (by decide) rfl (Nat.le_of_ble_eq_true rfl) ?_
  intro p_ e_ s_ m below_ meth_ c_ ls hx hb hr hml hts hown hlocks hin hP hE hD hA hS
  generalize hAe : va_A ([(b, .inr (5, [.ref (f 0), .ref (f 1), .ref (f 2), .ref (f 3), .int 0, .int 0])), (f 1, .inl (k 0, 12, .inl (fun _ => 0))), (f 2, .inl (k 0, 12, .inl (fun _ => 0)))]) sz = A at hD hA hS ⊢
  intro hl
  have hl : lv_has ls 2 [(0, .ref b), (1, .int 0)] := hl
  refine lv_aload_n hx hb dX5_closeClause_0 rfl (lv_at hl 0 rfl) ?_
  refine va_get (D := G) (ci := 5) (v := .int 0) (C := RX5) (T := TX5) (N := 6) hx hb hts j_c_X5_closeClause_5 hown hE.K hP 0 rfl rfl 4 (by decide) (hts (.fieldLink RX5 25 "GossamerGate$Rule" "clauses" "I") (List.mem_cons_of_mem _ (List.mem_append_left _ (List.mem_of_getElem? (i := 0) rfl)))) (fun _ h9 => h9) rfl dX5_closeClause_1 ?_
  refine lv_bipush (v := 12) hx hb dX5_closeClause_4 (by decide) ?_
  refine lv_icmp_ge (tgt := 42) hx hb dX5_closeClause_6 (by decide) (fun h9 => absurd h9 (by decide)) (fun _ => ?_)
  refine lv_aload_n hx hb dX5_closeClause_9 rfl (lv_at hl 0 rfl) ?_
  refine va_get (D := G) (ci := 5) (v := .ref (f 1)) (C := RX5) (T := TX5) (N := 6) hx hb hts j_c_X5_closeClause_5 hown hE.K hP 0 rfl rfl 1 (by decide) (hts (.fieldLink RX5 15 "GossamerGate$Rule" "sumEnds" "[I") (List.mem_cons_of_mem _ (List.mem_append_left _ (List.mem_of_getElem? (i := 1) rfl)))) (fun _ h9 => h9) rfl dX5_closeClause_10 ?_
  refine lv_aload_n hx hb dX5_closeClause_13 rfl (lv_at hl 0 rfl) ?_
  refine va_get (D := G) (ci := 5) (v := .int 0) (C := RX5) (T := TX5) (N := 6) hx hb hts j_c_X5_closeClause_5 hown hE.K hP 0 rfl rfl 4 (by decide) (hts (.fieldLink RX5 25 "GossamerGate$Rule" "clauses" "I") (List.mem_cons_of_mem _ (List.mem_append_left _ (List.mem_of_getElem? (i := 0) rfl)))) (fun _ h9 => h9) rfl dX5_closeClause_14 ?_
  refine lv_iload_n hx hb dX5_closeClause_17 rfl (lv_at hl 1 rfl) ?_
  refine va_iast hx hb hE.K hP hD hS 1 0 rfl rfl (gz_in (by decide)) dX5_closeClause_18 (fun H locs hP hD hS => ?_)
  have hP : va_P G vwCl [(b, .inr (5, [.ref (f 0), .ref (f 1), .ref (f 2), .ref (f 3), .int 0, .int 0])), (f 1, .inl (k 0, 12, .inl (upd (fun _ => 0) 0 0))), (f 2, .inl (k 0, 12, .inl (fun _ => 0)))] H := hP
  have hD : va_D A [(b, .inr (5, [.ref (f 0), .ref (f 1), .ref (f 2), .ref (f 3), .int 0, .int 0])), (f 1, .inl (k 0, 12, .inl (upd (fun _ => 0) 0 0))), (f 2, .inl (k 0, 12, .inl (fun _ => 0)))] := hD
  refine lv_aload_n hx hb dX5_closeClause_19 rfl (lv_at hl 0 rfl) ?_
  refine va_get (D := G) (ci := 5) (v := .ref (f 2)) (C := RX5) (T := TX5) (N := 6) hx hb hts j_c_X5_closeClause_5 hown hE.K hP 0 rfl rfl 2 (by decide) (hts (.fieldLink RX5 18 "GossamerGate$Rule" "testEnds" "[I") (List.mem_cons_of_mem _ (List.mem_append_left _ (List.mem_of_getElem? (i := 2) rfl)))) (fun _ h9 => h9) rfl dX5_closeClause_20 ?_
  refine lv_aload_n hx hb dX5_closeClause_23 rfl (lv_at hl 0 rfl) ?_
  refine va_get (D := G) (ci := 5) (v := .int 0) (C := RX5) (T := TX5) (N := 6) hx hb hts j_c_X5_closeClause_5 hown hE.K hP 0 rfl rfl 4 (by decide) (hts (.fieldLink RX5 25 "GossamerGate$Rule" "clauses" "I") (List.mem_cons_of_mem _ (List.mem_append_left _ (List.mem_of_getElem? (i := 0) rfl)))) (fun _ h9 => h9) rfl dX5_closeClause_24 ?_
  refine lv_aload_n hx hb dX5_closeClause_27 rfl (lv_at hl 0 rfl) ?_
  refine va_get (D := G) (ci := 5) (v := .int 0) (C := RX5) (T := TX5) (N := 6) hx hb hts j_c_X5_closeClause_5 hown hE.K hP 0 rfl rfl 5 (by decide) (hts (.fieldLink RX5 29 "GossamerGate$Rule" "length" "I") (List.mem_cons_of_mem _ (List.mem_append_left _ (List.mem_of_getElem? (i := 3) rfl)))) (fun _ h9 => h9) rfl dX5_closeClause_28 ?_
  refine va_iast hx hb hE.K hP hD hS 2 0 rfl rfl (gz_in (by decide)) dX5_closeClause_31 (fun H locs hP hD hS => ?_)
  have hP : va_P G vwCl [(b, .inr (5, [.ref (f 0), .ref (f 1), .ref (f 2), .ref (f 3), .int 0, .int 0])), (f 1, .inl (k 0, 12, .inl (upd (fun _ => 0) 0 0))), (f 2, .inl (k 0, 12, .inl (upd (fun _ => 0) 0 0)))] H := hP
  have hD : va_D A [(b, .inr (5, [.ref (f 0), .ref (f 1), .ref (f 2), .ref (f 3), .int 0, .int 0])), (f 1, .inl (k 0, 12, .inl (upd (fun _ => 0) 0 0))), (f 2, .inl (k 0, 12, .inl (upd (fun _ => 0) 0 0)))] := hD
  refine lv_aload_n hx hb dX5_closeClause_32 rfl (lv_at hl 0 rfl) ?_
  refine lv_dup hx hb dX5_closeClause_33 rfl ?_
  refine va_get (D := G) (ci := 5) (v := .int 0) (C := RX5) (T := TX5) (N := 6) hx hb hts j_c_X5_closeClause_5 hown hE.K hP 0 rfl rfl 4 (by decide) (hts (.fieldLink RX5 25 "GossamerGate$Rule" "clauses" "I") (List.mem_cons_of_mem _ (List.mem_append_left _ (List.mem_of_getElem? (i := 0) rfl)))) (fun _ h9 => h9) rfl dX5_closeClause_34 ?_
  refine lv_iconst (v := 1) hx hb dX5_closeClause_37 (by decide) ?_
  refine lv_iadd hx hb dX5_closeClause_38 ?_
  refine gz_ni (v := 1) (by decide) ?_
  refine va_put (D := G) (ci := 5) (v := .int 1) (ty := .int) (C := RX5) (T := TX5) (N := 6) hx hb hts j_c_X5_closeClause_5 tyX5 tyX5_ok nmX5 hown hE.K hP hD hS 0 rfl rfl 4 (by decide) (hts (.fieldLink RX5 25 "GossamerGate$Rule" "clauses" "I") (List.mem_cons_of_mem _ (List.mem_append_left _ (List.mem_of_getElem? (i := 0) rfl)))) (fun _ h9 => h9) rfl (by decide +kernel) rfl rfl (Nat.le_of_ble_eq_true rfl) dX5_closeClause_39 (fun H locs hP hD hS => ?_)
  have hP : va_P G vwCl [(b, .inr (5, [.ref (f 0), .ref (f 1), .ref (f 2), .ref (f 3), .int 1, .int 0])), (f 1, .inl (k 0, 12, .inl (upd (fun _ => 0) 0 0))), (f 2, .inl (k 0, 12, .inl (upd (fun _ => 0) 0 0)))] H := hP
  have hD : va_D A [(b, .inr (5, [.ref (f 0), .ref (f 1), .ref (f 2), .ref (f 3), .int 1, .int 0])), (f 1, .inl (k 0, 12, .inl (upd (fun _ => 0) 0 0))), (f 2, .inl (k 0, 12, .inl (upd (fun _ => 0) 0 0)))] := hD
  have hP9 := hP.sub (ws' := []) [] rfl
  have hD9 := hD.sub (ws' := []) [] (by decide) rfl
  exact W.vret hx hb hr (fun t ht hW => ⟨⟨(fun _ => 0), rfl, trivial, by rw [ht]; exact hP9, hD9⟩, hS.F ht⟩) hS.2.2 dX5_closeClause_42
set_option maxHeartbeats 4000000 in
set_option maxRecDepth 100000 in
theorem c_X6_readInto (l : Launch) (G : va_G) (k : Nat → ClassId) (sa : Nat → Nat) (sz : Nat) (c : Nat) (b : Nat) (t : Nat) (tp : Nat) (tb : Nat) (g : Nat) (f : Nat → Nat) : Met l yX6_readInto vs_c_X6_readInto ({ frames := 2, cells := 0, slots := 0, locals := 44 } : Room) (gP G k sa [.ref c, .ref g] [(c, .inr (6, [.ref t, .ref b, .int 0])), (t, .inr (8, [.ref tp, .int 0, .int 0, .int 0, .int (-1), .int 0])), (tp, .inr (7, [.ref tb, .int 0])), (b, .inr (5, [.ref (f 0), .ref (f 1), .ref (f 2), .ref (f 3), .int 0, .int 0])), (f 1, .inl (k 0, 12, .inl (fun _ => 0))), (f 2, .inl (k 0, 12, .inl (fun _ => 0)))] sz) (va_Qi (fun r (_ : Nat → Nat) => r = 1) (gO G (va_A ([(c, .inr (6, [.ref t, .ref b, .int 0])), (t, .inr (8, [.ref tp, .int 0, .int 0, .int 0, .int (-1), .int 0])), (tp, .inr (7, [.ref tb, .int 0])), (b, .inr (5, [.ref (f 0), .ref (f 1), .ref (f 2), .ref (f 3), .int 0, .int 0])), (f 1, .inl (k 0, 12, .inl (fun _ => 0))), (f 2, .inl (k 0, 12, .inl (fun _ => 0)))]) sz) (fun u => [(tp, .inr (7, [.ref tb, .int 0]))])) (va_A ([(c, .inr (6, [.ref t, .ref b, .int 0])), (t, .inr (8, [.ref tp, .int 0, .int 0, .int 0, .int (-1), .int 0])), (tp, .inr (7, [.ref tb, .int 0])), (b, .inr (5, [.ref (f 0), .ref (f 1), .ref (f 2), .ref (f 3), .int 0, .int 0])), (f 1, .inl (k 0, 12, .inl (fun _ => 0))), (f 2, .inl (k 0, 12, .inl (fun _ => 0)))]) sz)) 0 0 (va_A ([(c, .inr (6, [.ref t, .ref b, .int 0])), (t, .inr (8, [.ref tp, .int 0, .int 0, .int 0, .int (-1), .int 0])), (tp, .inr (7, [.ref tb, .int 0])), (b, .inr (5, [.ref (f 0), .ref (f 1), .ref (f 2), .ref (f 3), .int 0, .int 0])), (f 1, .inl (k 0, 12, .inl (fun _ => 0))), (f 2, .inl (k 0, 12, .inl (fun _ => 0)))]) sz) := by
  refine gz_met (cc := cX6_readInto) (maxL := 5) (ret := (some .int)) (by decide) rfl (Nat.le_of_ble_eq_true rfl) ?_
  intro p_ e_ s_ m below_ meth_ c_ ls hx hb hr hml hts hown hlocks hin hP hE hD hA hS
  generalize hAe : va_A ([(c, .inr (6, [.ref t, .ref b, .int 0])), (t, .inr (8, [.ref tp, .int 0, .int 0, .int 0, .int (-1), .int 0])), (tp, .inr (7, [.ref tb, .int 0])), (b, .inr (5, [.ref (f 0), .ref (f 1), .ref (f 2), .ref (f 3), .int 0, .int 0])), (f 1, .inl (k 0, 12, .inl (fun _ => 0))), (f 2, .inl (k 0, 12, .inl (fun _ => 0)))]) sz = A at hD hA hS ⊢
  intro hl
  have hl : lv_has ls 5 [(0, .ref c), (1, .ref g)] := hl
  refine lv_aload_n hx hb dX6_readInto_0 rfl (lv_at hl 0 rfl) ?_
  refine va_get (D := G) (ci := 6) (v := .ref b) (C := RX6) (T := TX6) (N := 3) hx hb hts j_c_X6_readInto_6 hown hE.K hP 0 rfl rfl 1 (by decide) (hts (.fieldLink RX6 12 "GossamerGate$RuleReader" "rule" "LGossamerGate$Rule;") (List.mem_cons_of_mem _ (List.mem_append_left _ (List.mem_of_getElem? (i := 0) rfl)))) (fun _ h9 => h9) rfl dX6_readInto_1 ?_
  refine gz_v (wc := [(b, .inr (5, [.ref (f 0), .ref (f 1), .ref (f 2), .ref (f 3), .int 0, .int 0]))]) (wr := [(c, .inr (6, [.ref t, .ref b, .int 0])), (t, .inr (8, [.ref tp, .int 0, .int 0, .int 0, .int (-1), .int 0])), (tp, .inr (7, [.ref tb, .int 0])), (f 1, .inl (k 0, 12, .inl (fun _ => 0))), (f 2, .inl (k 0, 12, .inl (fun _ => 0)))]) hP hD hS hA [3] [0, 1, 2, 4, 5] rfl rfl (by decide) (by decide) (va_runV (As := []) (rest := []) ⟨hx, hb, hml, hown, hts⟩ (c_X5_clear l G k sa _ b f) (cwV 0 hts g_c_X6_readInto_31_c_X5_clear rfl rfl rfl (by decide +kernel) ⟨(Nat.le_of_ble_eq_true rfl), (Nat.le_of_ble_eq_true rfl)⟩) ⟨gP.bl, va_recv hE.K hP (ci := 5) (q0 := 3) rfl rfl, (gP.pre (wc := [(b, .inr (5, [.ref (f 0), .ref (f 1), .ref (f 2), .ref (f 3), .int 0, .int 0]))]) hE hP hD [3] rfl (by decide))⟩ rfl rfl hl.1 rfl (lv_room (Nat.le_of_ble_eq_true rfl)) dX6_readInto_4 ⟨(Nat.le_of_ble_eq_true rfl), (Nat.le_of_ble_eq_true rfl)⟩) (fun u_1 H locs _ hP hD hS => ?_)
  have hP : va_P G vwCl [(c, .inr (6, [.ref t, .ref b, .int 0])), (t, .inr (8, [.ref tp, .int 0, .int 0, .int 0, .int (-1), .int 0])), (tp, .inr (7, [.ref tb, .int 0])), (f 1, .inl (k 0, 12, .inl (fun _ => 0))), (f 2, .inl (k 0, 12, .inl (fun _ => 0))), (b, .inr (5, [.ref (f 0), .ref (f 1), .ref (f 2), .ref (f 3), .int 0, .int 0]))] H := hP
  have hD : va_D A [(c, .inr (6, [.ref t, .ref b, .int 0])), (t, .inr (8, [.ref tp, .int 0, .int 0, .int 0, .int (-1), .int 0])), (tp, .inr (7, [.ref tb, .int 0])), (f 1, .inl (k 0, 12, .inl (fun _ => 0))), (f 2, .inl (k 0, 12, .inl (fun _ => 0))), (b, .inr (5, [.ref (f 0), .ref (f 1), .ref (f 2), .ref (f 3), .int 0, .int 0]))] := hD
  refine lv_aload_n hx hb dX6_readInto_7 rfl (lv_at hl 0 rfl) ?_
  refine lv_iconst (v := 0) hx hb dX6_readInto_8 (by decide) ?_
  refine va_put (D := G) (ci := 6) (v := .int 0) (ty := .int) (C := RX6) (T := TX6) (N := 3) hx hb hts j_c_X6_readInto_6 tyX6 tyX6_ok nmX6 hown hE.K hP hD hS 0 rfl rfl 2 (by decide) (hts (.fieldLink RX6 18 "GossamerGate$RuleReader" "values" "I") (List.mem_cons_of_mem _ (List.mem_append_left _ (List.mem_of_getElem? (i := 5) rfl)))) (fun _ h9 => h9) rfl (by decide +kernel) rfl rfl (Nat.le_of_ble_eq_true rfl) dX6_readInto_9 (fun H locs hP hD hS => ?_)
  have hP : va_P G vwCl [(c, .inr (6, [.ref t, .ref b, .int 0])), (t, .inr (8, [.ref tp, .int 0, .int 0, .int 0, .int (-1), .int 0])), (tp, .inr (7, [.ref tb, .int 0])), (f 1, .inl (k 0, 12, .inl (fun _ => 0))), (f 2, .inl (k 0, 12, .inl (fun _ => 0))), (b, .inr (5, [.ref (f 0), .ref (f 1), .ref (f 2), .ref (f 3), .int 0, .int 0]))] H := hP
  have hD : va_D A [(c, .inr (6, [.ref t, .ref b, .int 0])), (t, .inr (8, [.ref tp, .int 0, .int 0, .int 0, .int (-1), .int 0])), (tp, .inr (7, [.ref tb, .int 0])), (f 1, .inl (k 0, 12, .inl (fun _ => 0))), (f 2, .inl (k 0, 12, .inl (fun _ => 0))), (b, .inr (5, [.ref (f 0), .ref (f 1), .ref (f 2), .ref (f 3), .int 0, .int 0]))] := hD
  refine lv_aload_n hx hb dX6_readInto_12 rfl (lv_at hl 0 rfl) ?_
  refine va_get (D := G) (ci := 6) (v := .ref t) (C := RX6) (T := TX6) (N := 3) hx hb hts j_c_X6_readInto_6 hown hE.K hP 0 rfl rfl 0 (by decide) (hts (.fieldLink RX6 27 "GossamerGate$RuleReader" "tokens" "LGossamerGate$Tokens;") (List.mem_cons_of_mem _ (List.mem_append_left _ (List.mem_of_getElem? (i := 6) rfl)))) (fun _ h9 => h9) rfl dX6_readInto_13 ?_
  refine gz_v (wc := [(t, .inr (8, [.ref tp, .int 0, .int 0, .int 0, .int (-1), .int 0])), (tp, .inr (7, [.ref tb, .int 0]))]) (wr := [(c, .inr (6, [.ref t, .ref b, .int 0])), (f 1, .inl (k 0, 12, .inl (fun _ => 0))), (f 2, .inl (k 0, 12, .inl (fun _ => 0))), (b, .inr (5, [.ref (f 0), .ref (f 1), .ref (f 2), .ref (f 3), .int 0, .int 0]))]) hP hD hS hA [1, 2] [0, 3, 4, 5] rfl rfl (by decide) (by decide) (va_runV (As := []) (rest := []) ⟨hx, hb, hml, hown, hts⟩ (c_X8_restart l G k sa _ t tp tb) (cwV 0 hts g_c_X6_readInto_34_c_X8_restart rfl rfl rfl (by decide +kernel) ⟨(Nat.le_of_ble_eq_true rfl), (Nat.le_of_ble_eq_true rfl)⟩) ⟨gP.bl, va_recv hE.K hP (ci := 8) (q0 := 1) rfl rfl, (gP.pre (wc := [(t, .inr (8, [.ref tp, .int 0, .int 0, .int 0, .int (-1), .int 0])), (tp, .inr (7, [.ref tb, .int 0]))]) hE hP hD [1, 2] rfl (by decide))⟩ rfl rfl hl.1 rfl (lv_room (Nat.le_of_ble_eq_true rfl)) dX6_readInto_16 ⟨(Nat.le_of_ble_eq_true rfl), (Nat.le_of_ble_eq_true rfl)⟩) (fun u_2 H locs _ hP hD hS => ?_)
  have hP : va_P G vwCl [(c, .inr (6, [.ref t, .ref b, .int 0])), (f 1, .inl (k 0, 12, .inl (fun _ => 0))), (f 2, .inl (k 0, 12, .inl (fun _ => 0))), (b, .inr (5, [.ref (f 0), .ref (f 1), .ref (f 2), .ref (f 3), .int 0, .int 0])), (t, .inr (8, [.ref tp, .int 0, .int 0, .int 0, .int (-1), .int 0])), (tp, .inr (7, [.ref tb, .int 0]))] H := hP
  have hD : va_D A [(c, .inr (6, [.ref t, .ref b, .int 0])), (f 1, .inl (k 0, 12, .inl (fun _ => 0))), (f 2, .inl (k 0, 12, .inl (fun _ => 0))), (b, .inr (5, [.ref (f 0), .ref (f 1), .ref (f 2), .ref (f 3), .int 0, .int 0])), (t, .inr (8, [.ref tp, .int 0, .int 0, .int 0, .int (-1), .int 0])), (tp, .inr (7, [.ref tb, .int 0]))] := hD
  refine lv_iconst (v := 1) hx hb dX6_readInto_19 (by decide) ?_
  refine lv_istore_n (lv' := [(2, .int 1), (0, .ref c), (1, .ref g)]) hx hb dX6_readInto_20 rfl hl (by decide) rfl (fun ls hl => ?_)
  refine lv_iconst (v := 0) hx hb dX6_readInto_21 (by decide) ?_
  refine lv_istore_n (lv' := [(3, .int 0), (2, .int 1), (0, .ref c), (1, .ref g)]) hx hb dX6_readInto_22 rfl hl (by decide) rfl (fun ls hl => ?_)
  refine lv_iload_n hx hb dX6_readInto_23 rfl (lv_at hl 0 rfl) ?_
  refine lv_bipush (v := 12) hx hb dX6_readInto_24 (by decide) ?_
  refine lv_icmp_gt (tgt := 149) hx hb dX6_readInto_26 (by decide) (fun h9 => absurd h9 (by decide)) (fun _ => ?_)
  refine lv_iload_n hx hb dX6_readInto_29 rfl (lv_at hl 1 rfl) ?_
  refine lv_if_eq (tgt := 149) hx hb dX6_readInto_30 (by decide) (fun h9 => absurd h9 (by decide)) (fun _ => ?_)
  refine lv_aload_n hx hb dX6_readInto_33 rfl (lv_at hl 2 rfl) ?_
  refine va_get (D := G) (ci := 6) (v := .ref t) (C := RX6) (T := TX6) (N := 3) hx hb hts j_c_X6_readInto_6 hown hE.K hP 0 rfl rfl 0 (by decide) (hts (.fieldLink RX6 27 "GossamerGate$RuleReader" "tokens" "LGossamerGate$Tokens;") (List.mem_cons_of_mem _ (List.mem_append_left _ (List.mem_of_getElem? (i := 6) rfl)))) (fun _ h9 => h9) rfl dX6_readInto_34 ?_
  refine va_ldcS hx hb hown (hE.S 1 rfl) dX6_readInto_37 ?_
  refine vp_callSi (W.runV (As := [.ref (sa 1)]) (rest := []) ⟨hx, hb, hml, hown, hts⟩ (c_X8_wordAmong l G k sa t tp 0 (sa 1)) (cwV 1 hts g_c_X6_readInto_39_c_X8_wordAmong rfl rfl rfl (by decide +kernel) ⟨(Nat.le_of_ble_eq_true rfl), (Nat.le_of_ble_eq_true rfl)⟩) ⟨gR.bl, va_recv hE.K hP (ci := 8) (q0 := 4) rfl rfl, (gR.pre (wc := [(t, .inr (8, [.ref tp, .int 0, .int 0, .int 0, .int (-1), .int 0]))]) hE hP [4] rfl)⟩ rfl rfl hl.1 rfl (lv_room (Nat.le_of_ble_eq_true rfl)) dX6_readInto_39 ⟨(Nat.le_of_ble_eq_true rfl), (Nat.le_of_ble_eq_true rfl)⟩) (fun r_3 hr_3 => ?_)
  obtain rfl : r_3 = (-1) := hr_3
  refine lv_iconst (v := (-1)) hx hb dX6_readInto_42 (by decide) ?_
  refine lv_icmp_ne (tgt := 57) hx hb dX6_readInto_43 (by decide) (fun h9 => absurd h9 (by decide)) (fun _ => ?_)
  refine lv_aload_n hx hb dX6_readInto_46 rfl (lv_at hl 2 rfl) ?_
  refine va_get (D := G) (ci := 6) (v := .ref t) (C := RX6) (T := TX6) (N := 3) hx hb hts j_c_X6_readInto_6 hown hE.K hP 0 rfl rfl 0 (by decide) (hts (.fieldLink RX6 27 "GossamerGate$RuleReader" "tokens" "LGossamerGate$Tokens;") (List.mem_cons_of_mem _ (List.mem_append_left _ (List.mem_of_getElem? (i := 6) rfl)))) (fun _ h9 => h9) rfl dX6_readInto_47 ?_
  refine lv_iconst (v := 0) hx hb dX6_readInto_50 (by decide) ?_
  refine gz_v (wc := [(t, .inr (8, [.ref tp, .int 0, .int 0, .int 0, .int (-1), .int 0]))]) (wr := [(c, .inr (6, [.ref t, .ref b, .int 0])), (f 1, .inl (k 0, 12, .inl (fun _ => 0))), (f 2, .inl (k 0, 12, .inl (fun _ => 0))), (b, .inr (5, [.ref (f 0), .ref (f 1), .ref (f 2), .ref (f 3), .int 0, .int 0])), (tp, .inr (7, [.ref tb, .int 0]))]) hP hD hS hA [4] [0, 1, 2, 3, 5] rfl rfl (by decide) (by decide) (va_runV (As := [.int 0]) (rest := []) ⟨hx, hb, hml, hown, hts⟩ (c_X8_fail l G k sa _ t tp) (cwV 1 hts g_c_X6_readInto_43_c_X8_fail rfl rfl rfl (by decide +kernel) ⟨(Nat.le_of_ble_eq_true rfl), (Nat.le_of_ble_eq_true rfl)⟩) ⟨gP.bl, va_recv hE.K hP (ci := 8) (q0 := 4) rfl rfl, (gP.pre (wc := [(t, .inr (8, [.ref tp, .int 0, .int 0, .int 0, .int (-1), .int 0]))]) hE hP hD [4] rfl (by decide))⟩ rfl rfl hl.1 rfl (lv_room (Nat.le_of_ble_eq_true rfl)) dX6_readInto_51 ⟨(Nat.le_of_ble_eq_true rfl), (Nat.le_of_ble_eq_true rfl)⟩) (fun u_4 H locs _ hP hD hS => ?_)
  have hP : va_P G vwCl [(c, .inr (6, [.ref t, .ref b, .int 0])), (f 1, .inl (k 0, 12, .inl (fun _ => 0))), (f 2, .inl (k 0, 12, .inl (fun _ => 0))), (b, .inr (5, [.ref (f 0), .ref (f 1), .ref (f 2), .ref (f 3), .int 0, .int 0])), (tp, .inr (7, [.ref tb, .int 0])), (t, .inr (8, [.ref tp, .int 0, .int 0, .int 0, .int (-1), .int 1]))] H := hP
  have hD : va_D A [(c, .inr (6, [.ref t, .ref b, .int 0])), (f 1, .inl (k 0, 12, .inl (fun _ => 0))), (f 2, .inl (k 0, 12, .inl (fun _ => 0))), (b, .inr (5, [.ref (f 0), .ref (f 1), .ref (f 2), .ref (f 3), .int 0, .int 0])), (tp, .inr (7, [.ref tb, .int 0])), (t, .inr (8, [.ref tp, .int 0, .int 0, .int 0, .int (-1), .int 1]))] := hD
  refine lv_goto (tgt := 71) hx hb dX6_readInto_54 (by decide) ?_
  refine lv_aload_n hx hb dX6_readInto_71 rfl (lv_at hl 2 rfl) ?_
  refine va_get (D := G) (ci := 6) (v := .ref t) (C := RX6) (T := TX6) (N := 3) hx hb hts j_c_X6_readInto_6 hown hE.K hP 0 rfl rfl 0 (by decide) (hts (.fieldLink RX6 27 "GossamerGate$RuleReader" "tokens" "LGossamerGate$Tokens;") (List.mem_cons_of_mem _ (List.mem_append_left _ (List.mem_of_getElem? (i := 6) rfl)))) (fun _ h9 => h9) rfl dX6_readInto_72 ?_
  refine gz_v (wc := [(t, .inr (8, [.ref tp, .int 0, .int 0, .int 0, .int (-1), .int 1])), (tp, .inr (7, [.ref tb, .int 0]))]) (wr := [(c, .inr (6, [.ref t, .ref b, .int 0])), (f 1, .inl (k 0, 12, .inl (fun _ => 0))), (f 2, .inl (k 0, 12, .inl (fun _ => 0))), (b, .inr (5, [.ref (f 0), .ref (f 1), .ref (f 2), .ref (f 3), .int 0, .int 0]))]) hP hD hS hA [5, 4] [0, 1, 2, 3] rfl rfl (by decide) (by decide) (va_runV (As := []) (rest := []) ⟨hx, hb, hml, hown, hts⟩ (c_X8_advance l G k sa _ t tp tb 1) (cwV 0 hts g_c_X6_readInto_47_c_X8_advance rfl rfl rfl (by decide +kernel) ⟨(Nat.le_of_ble_eq_true rfl), (Nat.le_of_ble_eq_true rfl)⟩) ⟨gP.bl, va_recv hE.K hP (ci := 8) (q0 := 5) rfl rfl, (gP.pre (wc := [(t, .inr (8, [.ref tp, .int 0, .int 0, .int 0, .int (-1), .int 1])), (tp, .inr (7, [.ref tb, .int 0]))]) hE hP hD [5, 4] rfl (by decide))⟩ rfl rfl hl.1 rfl (lv_room (Nat.le_of_ble_eq_true rfl)) dX6_readInto_75 ⟨(Nat.le_of_ble_eq_true rfl), (Nat.le_of_ble_eq_true rfl)⟩) (fun u_5 H locs _ hP hD hS => ?_)
  have hP : va_P G vwCl [(c, .inr (6, [.ref t, .ref b, .int 0])), (f 1, .inl (k 0, 12, .inl (fun _ => 0))), (f 2, .inl (k 0, 12, .inl (fun _ => 0))), (b, .inr (5, [.ref (f 0), .ref (f 1), .ref (f 2), .ref (f 3), .int 0, .int 0])), (t, .inr (8, [.ref tp, .int 0, .int 0, .int 0, .int (-1), .int 1])), (tp, .inr (7, [.ref tb, .int 0]))] H := hP
  have hD : va_D A [(c, .inr (6, [.ref t, .ref b, .int 0])), (f 1, .inl (k 0, 12, .inl (fun _ => 0))), (f 2, .inl (k 0, 12, .inl (fun _ => 0))), (b, .inr (5, [.ref (f 0), .ref (f 1), .ref (f 2), .ref (f 3), .int 0, .int 0])), (t, .inr (8, [.ref tp, .int 0, .int 0, .int 0, .int (-1), .int 1])), (tp, .inr (7, [.ref tb, .int 0]))] := hD
  refine lv_aload_n hx hb dX6_readInto_78 rfl (lv_at hl 2 rfl) ?_
  refine gz_v (wc := [(c, .inr (6, [.ref t, .ref b, .int 0])), (t, .inr (8, [.ref tp, .int 0, .int 0, .int 0, .int (-1), .int 1]))]) (wr := [(f 1, .inl (k 0, 12, .inl (fun _ => 0))), (f 2, .inl (k 0, 12, .inl (fun _ => 0))), (b, .inr (5, [.ref (f 0), .ref (f 1), .ref (f 2), .ref (f 3), .int 0, .int 0])), (tp, .inr (7, [.ref tb, .int 0]))]) hP hD hS hA [0, 4] [1, 2, 3, 5] rfl rfl (by decide) (by decide) (va_runV (As := []) (rest := []) ⟨hx, hb, hml, hown, hts⟩ (c_X6_readSum l G k sa _ c b t tp) (cwV 0 hts g_c_X6_readInto_50_c_X6_readSum rfl rfl rfl (by decide +kernel) ⟨(Nat.le_of_ble_eq_true rfl), (Nat.le_of_ble_eq_true rfl)⟩) ⟨gP.bl, va_recv hE.K hP (ci := 6) (q0 := 0) rfl rfl, (gP.pre (wc := [(c, .inr (6, [.ref t, .ref b, .int 0])), (t, .inr (8, [.ref tp, .int 0, .int 0, .int 0, .int (-1), .int 1]))]) hE hP hD [0, 4] rfl (by decide))⟩ rfl rfl hl.1 rfl (lv_room (Nat.le_of_ble_eq_true rfl)) dX6_readInto_79 ⟨(Nat.le_of_ble_eq_true rfl), (Nat.le_of_ble_eq_true rfl)⟩) (fun u_6 H locs _ hP hD hS => ?_)
  have hP : va_P G vwCl [(f 1, .inl (k 0, 12, .inl (fun _ => 0))), (f 2, .inl (k 0, 12, .inl (fun _ => 0))), (b, .inr (5, [.ref (f 0), .ref (f 1), .ref (f 2), .ref (f 3), .int 0, .int 0])), (tp, .inr (7, [.ref tb, .int 0])), (c, .inr (6, [.ref t, .ref b, .int 0])), (t, .inr (8, [.ref tp, .int 0, .int 0, .int 0, .int (-1), .int 1]))] H := hP
  have hD : va_D A [(f 1, .inl (k 0, 12, .inl (fun _ => 0))), (f 2, .inl (k 0, 12, .inl (fun _ => 0))), (b, .inr (5, [.ref (f 0), .ref (f 1), .ref (f 2), .ref (f 3), .int 0, .int 0])), (tp, .inr (7, [.ref tb, .int 0])), (c, .inr (6, [.ref t, .ref b, .int 0])), (t, .inr (8, [.ref tp, .int 0, .int 0, .int 0, .int (-1), .int 1]))] := hD
  refine lv_aload_n hx hb dX6_readInto_82 rfl (lv_at hl 2 rfl) ?_
  refine va_get (D := G) (ci := 6) (v := .ref b) (C := RX6) (T := TX6) (N := 3) hx hb hts j_c_X6_readInto_6 hown hE.K hP 4 rfl rfl 1 (by decide) (hts (.fieldLink RX6 12 "GossamerGate$RuleReader" "rule" "LGossamerGate$Rule;") (List.mem_cons_of_mem _ (List.mem_append_left _ (List.mem_of_getElem? (i := 0) rfl)))) (fun _ h9 => h9) rfl dX6_readInto_83 ?_
  refine va_get (D := G) (ci := 5) (v := .int 0) (C := RX5) (T := TX5) (N := 6) hx hb hts j_c_X6_readInto_5 hown hE.K hP 2 rfl rfl 5 (by decide) (hts (.fieldLink RX6 53 "GossamerGate$Rule" "length" "I") (List.mem_cons_of_mem _ (List.mem_append_left _ (List.mem_of_getElem? (i := 24) rfl)))) (fun _ h9 => h9) rfl dX6_readInto_86 ?_
  refine lv_istore (lv' := [(4, .int 0), (3, .int 0), (2, .int 1), (0, .ref c), (1, .ref g)]) hx hb dX6_readInto_89 hl (by decide) rfl (fun ls hl => ?_)
  refine lv_aload_n hx hb dX6_readInto_91 rfl (lv_at hl 3 rfl) ?_
  refine va_get (D := G) (ci := 6) (v := .ref t) (C := RX6) (T := TX6) (N := 3) hx hb hts j_c_X6_readInto_6 hown hE.K hP 4 rfl rfl 0 (by decide) (hts (.fieldLink RX6 27 "GossamerGate$RuleReader" "tokens" "LGossamerGate$Tokens;") (List.mem_cons_of_mem _ (List.mem_append_left _ (List.mem_of_getElem? (i := 6) rfl)))) (fun _ h9 => h9) rfl dX6_readInto_92 ?_
  refine va_get (D := G) (ci := 8) (v := .int 1) (C := RX8) (T := TX8) (N := 6) hx hb hts j_c_X6_readInto_8 hown hE.K hP 5 rfl rfl 5 (by decide) (hts (.fieldLink RX6 56 "GossamerGate$Tokens" "fault" "I") (List.mem_cons_of_mem _ (List.mem_append_left _ (List.mem_of_getElem? (i := 25) rfl)))) (fun _ h9 => h9) rfl dX6_readInto_95 ?_
  refine lv_if_ne (tgt := 126) hx hb dX6_readInto_98 (by decide) (fun _ => ?_) (fun h9 => absurd h9 (by decide))
  refine lv_aload_n hx hb dX6_readInto_126 rfl (lv_at hl 3 rfl) ?_
  refine va_get (D := G) (ci := 6) (v := .ref b) (C := RX6) (T := TX6) (N := 3) hx hb hts j_c_X6_readInto_6 hown hE.K hP 4 rfl rfl 1 (by decide) (hts (.fieldLink RX6 12 "GossamerGate$RuleReader" "rule" "LGossamerGate$Rule;") (List.mem_cons_of_mem _ (List.mem_append_left _ (List.mem_of_getElem? (i := 0) rfl)))) (fun _ h9 => h9) rfl dX6_readInto_127 ?_
  refine lv_iload hx hb dX6_readInto_130 (lv_at hl 0 rfl) ?_
  refine gz_v (wc := [(b, .inr (5, [.ref (f 0), .ref (f 1), .ref (f 2), .ref (f 3), .int 0, .int 0])), (f 1, .inl (k 0, 12, .inl (fun _ => 0))), (f 2, .inl (k 0, 12, .inl (fun _ => 0)))]) (wr := [(tp, .inr (7, [.ref tb, .int 0])), (c, .inr (6, [.ref t, .ref b, .int 0])), (t, .inr (8, [.ref tp, .int 0, .int 0, .int 0, .int (-1), .int 1]))]) hP hD hS hA [2, 0, 1] [3, 4, 5] rfl rfl (by decide) (by decide) (va_runV (As := [.int 0]) (rest := []) ⟨hx, hb, hml, hown, hts⟩ (c_X5_closeClause l G k sa _ b f) (cwV 1 hts g_c_X6_readInto_64_c_X5_closeClause rfl rfl rfl (by decide +kernel) ⟨(Nat.le_of_ble_eq_true rfl), (Nat.le_of_ble_eq_true rfl)⟩) ⟨gP.bl, va_recv hE.K hP (ci := 5) (q0 := 2) rfl rfl, (gP.pre (wc := [(b, .inr (5, [.ref (f 0), .ref (f 1), .ref (f 2), .ref (f 3), .int 0, .int 0])), (f 1, .inl (k 0, 12, .inl (fun _ => 0))), (f 2, .inl (k 0, 12, .inl (fun _ => 0)))]) hE hP hD [2, 0, 1] rfl (by decide))⟩ rfl rfl hl.1 rfl (lv_room (Nat.le_of_ble_eq_true rfl)) dX6_readInto_132 ⟨(Nat.le_of_ble_eq_true rfl), (Nat.le_of_ble_eq_true rfl)⟩) (fun u_7 H locs _ hP hD hS => ?_)
  have hP : va_P G vwCl [(tp, .inr (7, [.ref tb, .int 0])), (c, .inr (6, [.ref t, .ref b, .int 0])), (t, .inr (8, [.ref tp, .int 0, .int 0, .int 0, .int (-1), .int 1]))] H := hP
  have hD : va_D A [(tp, .inr (7, [.ref tb, .int 0])), (c, .inr (6, [.ref t, .ref b, .int 0])), (t, .inr (8, [.ref tp, .int 0, .int 0, .int 0, .int (-1), .int 1]))] := hD
  refine lv_aload_n hx hb dX6_readInto_135 rfl (lv_at hl 3 rfl) ?_
  refine va_get (D := G) (ci := 6) (v := .ref t) (C := RX6) (T := TX6) (N := 3) hx hb hts j_c_X6_readInto_6 hown hE.K hP 1 rfl rfl 0 (by decide) (hts (.fieldLink RX6 27 "GossamerGate$RuleReader" "tokens" "LGossamerGate$Tokens;") (List.mem_cons_of_mem _ (List.mem_append_left _ (List.mem_of_getElem? (i := 6) rfl)))) (fun _ h9 => h9) rfl dX6_readInto_136 ?_
  refine vp_callSi (W.runV (As := []) (rest := []) ⟨hx, hb, hml, hown, hts⟩ (c_X8_takeSemicolon l G k sa t tp) (cwV 0 hts g_c_X6_readInto_67_c_X8_takeSemicolon rfl rfl rfl (by decide +kernel) ⟨(Nat.le_of_ble_eq_true rfl), (Nat.le_of_ble_eq_true rfl)⟩) ⟨gR.bl, va_recv hE.K hP (ci := 8) (q0 := 2) rfl rfl, (gR.pre (wc := [(t, .inr (8, [.ref tp, .int 0, .int 0, .int 0, .int (-1), .int 1]))]) hE hP [2] rfl)⟩ rfl rfl hl.1 rfl (lv_room (Nat.le_of_ble_eq_true rfl)) dX6_readInto_139 ⟨(Nat.le_of_ble_eq_true rfl), (Nat.le_of_ble_eq_true rfl)⟩) (fun r_8 hr_8 => ?_)
  obtain rfl : r_8 = 0 := hr_8
  refine lv_istore_n (lv' := [(2, .int 0), (4, .int 0), (3, .int 0), (0, .ref c), (1, .ref g)]) hx hb dX6_readInto_142 rfl hl (by decide) rfl (fun ls hl => ?_)
  refine lv_iinc (v := 1) (lv' := [(3, .int 1), (2, .int 0), (4, .int 0), (0, .ref c), (1, .ref g)]) hx hb dX6_readInto_143 hl (k := 2) rfl (by decide) (by decide) rfl (fun ls hl => ?_)
  refine lv_goto (tgt := 23) hx hb dX6_readInto_146 (by decide) ?_
  refine lv_iload_n hx hb dX6_readInto_23 rfl (lv_at hl 0 rfl) ?_
  refine lv_bipush (v := 12) hx hb dX6_readInto_24 (by decide) ?_
  refine lv_icmp_gt (tgt := 149) hx hb dX6_readInto_26 (by decide) (fun h9 => absurd h9 (by decide)) (fun _ => ?_)
  refine lv_iload_n hx hb dX6_readInto_29 rfl (lv_at hl 1 rfl) ?_
  refine lv_if_eq (tgt := 149) hx hb dX6_readInto_30 (by decide) (fun _ => ?_) (fun h9 => absurd h9 (by decide))
  refine lv_aload_n hx hb dX6_readInto_149 rfl (lv_at hl 3 rfl) ?_
  refine va_get (D := G) (ci := 6) (v := .ref t) (C := RX6) (T := TX6) (N := 3) hx hb hts j_c_X6_readInto_6 hown hE.K hP 1 rfl rfl 0 (by decide) (hts (.fieldLink RX6 27 "GossamerGate$RuleReader" "tokens" "LGossamerGate$Tokens;") (List.mem_cons_of_mem _ (List.mem_append_left _ (List.mem_of_getElem? (i := 6) rfl)))) (fun _ h9 => h9) rfl dX6_readInto_150 ?_
  refine va_get (D := G) (ci := 8) (v := .int 1) (C := RX8) (T := TX8) (N := 6) hx hb hts j_c_X6_readInto_8 hown hE.K hP 2 rfl rfl 5 (by decide) (hts (.fieldLink RX6 56 "GossamerGate$Tokens" "fault" "I") (List.mem_cons_of_mem _ (List.mem_append_left _ (List.mem_of_getElem? (i := 25) rfl)))) (fun _ h9 => h9) rfl dX6_readInto_153 ?_
  refine lv_if_ne (tgt := 167) hx hb dX6_readInto_156 (by decide) (fun _ => ?_) (fun h9 => absurd h9 (by decide))
  refine lv_aload_n hx hb dX6_readInto_167 rfl (lv_at hl 3 rfl) ?_
  refine va_get (D := G) (ci := 6) (v := .ref t) (C := RX6) (T := TX6) (N := 3) hx hb hts j_c_X6_readInto_6 hown hE.K hP 1 rfl rfl 0 (by decide) (hts (.fieldLink RX6 27 "GossamerGate$RuleReader" "tokens" "LGossamerGate$Tokens;") (List.mem_cons_of_mem _ (List.mem_append_left _ (List.mem_of_getElem? (i := 6) rfl)))) (fun _ h9 => h9) rfl dX6_readInto_168 ?_
  refine va_get (D := G) (ci := 8) (v := .int 1) (C := RX8) (T := TX8) (N := 6) hx hb hts j_c_X6_readInto_8 hown hE.K hP 2 rfl rfl 5 (by decide) (hts (.fieldLink RX6 56 "GossamerGate$Tokens" "fault" "I") (List.mem_cons_of_mem _ (List.mem_append_left _ (List.mem_of_getElem? (i := 25) rfl)))) (fun _ h9 => h9) rfl dX6_readInto_171 ?_
  have hP9 := hP.sub (ws' := [(tp, .inr (7, [.ref tb, .int 0]))]) [0] rfl
  have hD9 := hD.sub (ws' := [(tp, .inr (7, [.ref tb, .int 0]))]) [0] (by decide) rfl
  exact W.iret (v := 1) hx hb hr (fun t ht hW => ⟨⟨1, (fun _ => 0), rfl, rfl, by rw [ht]; exact hP9, hD9⟩, hS.F ht⟩) hS.2.2 dX6_readInto_174
set_option maxHeartbeats 4000000 in
set_option maxRecDepth 100000 in
theorem c_X10_rule (l : Launch) (G : va_G) (k : Nat → ClassId) (sa : Nat → Nat) (sz : Nat) (h0 : Nat) (v : Nat → Nat) (f : Nat → Nat) : Met l yX10_rule vs_c_X10_rule ({ frames := 3, cells := 0, slots := 0, locals := 68 } : Room) (gP G k sa [.ref h0] [(h0, .inr (10, [.ref (v 0), .ref (v 1), .ref (v 2), .ref (v 3), .ref (v 4), .int 0, .ref (v 5), .ref (v 6), .ref (v 7), .ref (v 8), .ref (v 9), .ref (v 10), .ref (v 11), .ref (v 12), .ref (v 13), .int 0])), (v 2, .inr (6, [.ref (v 16), .ref (v 17), .int 0])), (v 16, .inr (8, [.ref (v 0), .int 0, .int 0, .int 0, .int (-1), .int 0])), (v 0, .inr (7, [.ref (v 14), .int 0])), (v 17, .inr (5, [.ref (f 0), .ref (f 1), .ref (f 2), .ref (f 3), .int 0, .int 0])), (f 1, .inl (k 0, 12, .inl (fun _ => 0))), (f 2, .inl (k 0, 12, .inl (fun _ => 0))), (v 4, .inl (k 3, 6, .inr (.inr (.inr (.inr (va_up (va_up (va_up (va_up (va_up (va_up (fun _ => none) 0 (some (v 20))) 1 (some (v 21))) 2 (some (v 22))) 3 (some (v 23))) 4 (some (v 24))) 5 (some (v 25))))))))] sz) (va_Qi (fun r (_ : Nat → Nat) => r = (-3)) (gO G (va_A ([(h0, .inr (10, [.ref (v 0), .ref (v 1), .ref (v 2), .ref (v 3), .ref (v 4), .int 0, .ref (v 5), .ref (v 6), .ref (v 7), .ref (v 8), .ref (v 9), .ref (v 10), .ref (v 11), .ref (v 12), .ref (v 13), .int 0])), (v 2, .inr (6, [.ref (v 16), .ref (v 17), .int 0])), (v 16, .inr (8, [.ref (v 0), .int 0, .int 0, .int 0, .int (-1), .int 0])), (v 0, .inr (7, [.ref (v 14), .int 0])), (v 17, .inr (5, [.ref (f 0), .ref (f 1), .ref (f 2), .ref (f 3), .int 0, .int 0])), (f 1, .inl (k 0, 12, .inl (fun _ => 0))), (f 2, .inl (k 0, 12, .inl (fun _ => 0))), (v 4, .inl (k 3, 6, .inr (.inr (.inr (.inr (va_up (va_up (va_up (va_up (va_up (va_up (fun _ => none) 0 (some (v 20))) 1 (some (v 21))) 2 (some (v 22))) 3 (some (v 23))) 4 (some (v 24))) 5 (some (v 25))))))))]) sz) (fun _ => [])) (va_A ([(h0, .inr (10, [.ref (v 0), .ref (v 1), .ref (v 2), .ref (v 3), .ref (v 4), .int 0, .ref (v 5), .ref (v 6), .ref (v 7), .ref (v 8), .ref (v 9), .ref (v 10), .ref (v 11), .ref (v 12), .ref (v 13), .int 0])), (v 2, .inr (6, [.ref (v 16), .ref (v 17), .int 0])), (v 16, .inr (8, [.ref (v 0), .int 0, .int 0, .int 0, .int (-1), .int 0])), (v 0, .inr (7, [.ref (v 14), .int 0])), (v 17, .inr (5, [.ref (f 0), .ref (f 1), .ref (f 2), .ref (f 3), .int 0, .int 0])), (f 1, .inl (k 0, 12, .inl (fun _ => 0))), (f 2, .inl (k 0, 12, .inl (fun _ => 0))), (v 4, .inl (k 3, 6, .inr (.inr (.inr (.inr (va_up (va_up (va_up (va_up (va_up (va_up (fun _ => none) 0 (some (v 20))) 1 (some (v 21))) 2 (some (v 22))) 3 (some (v 23))) 4 (some (v 24))) 5 (some (v 25))))))))]) sz)) 0 0 (va_A ([(h0, .inr (10, [.ref (v 0), .ref (v 1), .ref (v 2), .ref (v 3), .ref (v 4), .int 0, .ref (v 5), .ref (v 6), .ref (v 7), .ref (v 8), .ref (v 9), .ref (v 10), .ref (v 11), .ref (v 12), .ref (v 13), .int 0])), (v 2, .inr (6, [.ref (v 16), .ref (v 17), .int 0])), (v 16, .inr (8, [.ref (v 0), .int 0, .int 0, .int 0, .int (-1), .int 0])), (v 0, .inr (7, [.ref (v 14), .int 0])), (v 17, .inr (5, [.ref (f 0), .ref (f 1), .ref (f 2), .ref (f 3), .int 0, .int 0])), (f 1, .inl (k 0, 12, .inl (fun _ => 0))), (f 2, .inl (k 0, 12, .inl (fun _ => 0))), (v 4, .inl (k 3, 6, .inr (.inr (.inr (.inr (va_up (va_up (va_up (va_up (va_up (va_up (fun _ => none) 0 (some (v 20))) 1 (some (v 21))) 2 (some (v 22))) 3 (some (v 23))) 4 (some (v 24))) 5 (some (v 25))))))))]) sz) := by
  refine gz_met (cc := cX10_rule) (maxL := 2) (ret := (some .int)) (by decide) rfl (Nat.le_of_ble_eq_true rfl) ?_
  intro p_ e_ s_ m below_ meth_ c_ ls hx hb hr hml hts hown hlocks hin hP hE hD hA hS
  generalize hAe : va_A ([(h0, .inr (10, [.ref (v 0), .ref (v 1), .ref (v 2), .ref (v 3), .ref (v 4), .int 0, .ref (v 5), .ref (v 6), .ref (v 7), .ref (v 8), .ref (v 9), .ref (v 10), .ref (v 11), .ref (v 12), .ref (v 13), .int 0])), (v 2, .inr (6, [.ref (v 16), .ref (v 17), .int 0])), (v 16, .inr (8, [.ref (v 0), .int 0, .int 0, .int 0, .int (-1), .int 0])), (v 0, .inr (7, [.ref (v 14), .int 0])), (v 17, .inr (5, [.ref (f 0), .ref (f 1), .ref (f 2), .ref (f 3), .int 0, .int 0])), (f 1, .inl (k 0, 12, .inl (fun _ => 0))), (f 2, .inl (k 0, 12, .inl (fun _ => 0))), (v 4, .inl (k 3, 6, .inr (.inr (.inr (.inr (va_up (va_up (va_up (va_up (va_up (va_up (fun _ => none) 0 (some (v 20))) 1 (some (v 21))) 2 (some (v 22))) 3 (some (v 23))) 4 (some (v 24))) 5 (some (v 25))))))))]) sz = A at hD hA hS ⊢
  intro hl
  have hl : lv_has ls 2 [(0, .ref h0)] := hl
  refine lv_aload_n hx hb dX10_rule_0 rfl (lv_at hl 0 rfl) ?_
  refine va_get (D := G) (ci := 10) (v := .int 0) (C := RX10) (T := TX10) (N := 16) hx hb hts j_c_X10_rule_10 hown hE.K hP 0 rfl rfl 5 (by decide) (hts (.fieldLink RX10 45 "GossamerGate" "ruleCount" "I") (List.mem_cons_of_mem _ (List.mem_append_left _ (List.mem_of_getElem? (i := 0) rfl)))) (fun _ h9 => h9) rfl dX10_rule_1 ?_
  refine lv_bipush (v := 6) hx hb dX10_rule_4 (by decide) ?_
  refine lv_icmp_lt (tgt := 11) hx hb dX10_rule_6 (by decide) (fun _ => ?_) (fun h9 => absurd h9 (by decide))
  refine lv_aload_n hx hb dX10_rule_11 rfl (lv_at hl 0 rfl) ?_
  refine va_get (D := G) (ci := 10) (v := .ref (v 2)) (C := RX10) (T := TX10) (N := 16) hx hb hts j_c_X10_rule_10 hown hE.K hP 0 rfl rfl 2 (by decide) (hts (.fieldLink RX10 28 "GossamerGate" "ruleReader" "LGossamerGate$RuleReader;") (List.mem_cons_of_mem _ (List.mem_append_left _ (List.mem_of_getElem? (i := 1) rfl)))) (fun _ h9 => h9) rfl dX10_rule_12 ?_
  refine lv_aload_n hx hb dX10_rule_15 rfl (lv_at hl 0 rfl) ?_
  refine va_get (D := G) (ci := 10) (v := .ref (v 4)) (C := RX10) (T := TX10) (N := 16) hx hb hts j_c_X10_rule_10 hown hE.K hP 0 rfl rfl 4 (by decide) (hts (.fieldLink RX10 41 "GossamerGate" "rules" "[LGossamerGate$Rule;") (List.mem_cons_of_mem _ (List.mem_append_left _ (List.mem_of_getElem? (i := 2) rfl)))) (fun _ h9 => h9) rfl dX10_rule_16 ?_
  refine lv_aload_n hx hb dX10_rule_19 rfl (lv_at hl 0 rfl) ?_
  refine va_get (D := G) (ci := 10) (v := .int 0) (C := RX10) (T := TX10) (N := 16) hx hb hts j_c_X10_rule_10 hown hE.K hP 0 rfl rfl 5 (by decide) (hts (.fieldLink RX10 45 "GossamerGate" "ruleCount" "I") (List.mem_cons_of_mem _ (List.mem_append_left _ (List.mem_of_getElem? (i := 0) rfl)))) (fun _ h9 => h9) rfl dX10_rule_20 ?_
  refine va_aldq hx hb hE.K hP 7 3 rfl rfl (gz_in (by decide)) dX10_rule_23 ?_
  refine gz_top (v := .ref (v 20)) rfl ?_
  refine gz_i (wc := [((v 2), .inr (6, [.ref (v 16), .ref (v 17), .int 0])), ((v 16), .inr (8, [.ref (v 0), .int 0, .int 0, .int 0, .int (-1), .int 0])), ((v 0), .inr (7, [.ref (v 14), .int 0])), ((v 17), .inr (5, [.ref (f 0), .ref (f 1), .ref (f 2), .ref (f 3), .int 0, .int 0])), (f 1, .inl (k 0, 12, .inl (fun _ => 0))), (f 2, .inl (k 0, 12, .inl (fun _ => 0)))]) (wr := [(h0, .inr (10, [.ref (v 0), .ref (v 1), .ref (v 2), .ref (v 3), .ref (v 4), .int 0, .ref (v 5), .ref (v 6), .ref (v 7), .ref (v 8), .ref (v 9), .ref (v 10), .ref (v 11), .ref (v 12), .ref (v 13), .int 0])), (v 4, .inl (k 3, 6, .inr (.inr (.inr (.inr (va_up (va_up (va_up (va_up (va_up (va_up (fun _ => none) 0 (some (v 20))) 1 (some (v 21))) 2 (some (v 22))) 3 (some (v 23))) 4 (some (v 24))) 5 (some (v 25))))))))]) hP hD hS hA [1, 2, 3, 4, 5, 6] [0, 7] rfl rfl (by decide) (by decide) (va_runV (As := [.ref (v 20)]) (rest := []) ⟨hx, hb, hml, hown, hts⟩ (c_X6_readInto l G k sa _ (v 2) (v 17) (v 16) (v 0) (v 14) (v 20) f) (cwV 1 hts g_c_X10_rule_133_c_X6_readInto rfl rfl rfl (by decide +kernel) ⟨(Nat.le_of_ble_eq_true rfl), (Nat.le_of_ble_eq_true rfl)⟩) ⟨gP.bl, va_recv hE.K hP (ci := 6) (q0 := 1) rfl rfl, (gP.pre (wc := [((v 2), .inr (6, [.ref (v 16), .ref (v 17), .int 0])), ((v 16), .inr (8, [.ref (v 0), .int 0, .int 0, .int 0, .int (-1), .int 0])), ((v 0), .inr (7, [.ref (v 14), .int 0])), ((v 17), .inr (5, [.ref (f 0), .ref (f 1), .ref (f 2), .ref (f 3), .int 0, .int 0])), (f 1, .inl (k 0, 12, .inl (fun _ => 0))), (f 2, .inl (k 0, 12, .inl (fun _ => 0)))]) hE hP hD [1, 2, 3, 4, 5, 6] rfl (by decide))⟩ rfl rfl hl.1 rfl (lv_room (Nat.le_of_ble_eq_true rfl)) dX10_rule_24 ⟨(Nat.le_of_ble_eq_true rfl), (Nat.le_of_ble_eq_true rfl)⟩) (fun r_2 u_1 H locs hr_2 hP hD hS => ?_)
  have hP : va_P G vwCl [(h0, .inr (10, [.ref (v 0), .ref (v 1), .ref (v 2), .ref (v 3), .ref (v 4), .int 0, .ref (v 5), .ref (v 6), .ref (v 7), .ref (v 8), .ref (v 9), .ref (v 10), .ref (v 11), .ref (v 12), .ref (v 13), .int 0])), (v 4, .inl (k 3, 6, .inr (.inr (.inr (.inr (va_up (va_up (va_up (va_up (va_up (va_up (fun _ => none) 0 (some (v 20))) 1 (some (v 21))) 2 (some (v 22))) 3 (some (v 23))) 4 (some (v 24))) 5 (some (v 25)))))))), ((v 0), .inr (7, [.ref (v 14), .int 0]))] H := hP
  have hD : va_D A [(h0, .inr (10, [.ref (v 0), .ref (v 1), .ref (v 2), .ref (v 3), .ref (v 4), .int 0, .ref (v 5), .ref (v 6), .ref (v 7), .ref (v 8), .ref (v 9), .ref (v 10), .ref (v 11), .ref (v 12), .ref (v 13), .int 0])), (v 4, .inl (k 3, 6, .inr (.inr (.inr (.inr (va_up (va_up (va_up (va_up (va_up (va_up (fun _ => none) 0 (some (v 20))) 1 (some (v 21))) 2 (some (v 22))) 3 (some (v 23))) 4 (some (v 24))) 5 (some (v 25)))))))), ((v 0), .inr (7, [.ref (v 14), .int 0]))] := hD
  obtain rfl : r_2 = 1 := hr_2
  refine lv_istore_n (lv' := [(1, .int 1), (0, .ref h0)]) hx hb dX10_rule_27 rfl hl (by decide) rfl (fun ls hl => ?_)
  refine lv_aload_n hx hb dX10_rule_28 rfl (lv_at hl 1 rfl) ?_
  refine va_get (D := G) (ci := 10) (v := .ref (v 0)) (C := RX10) (T := TX10) (N := 16) hx hb hts j_c_X10_rule_10 hown hE.K hP 0 rfl rfl 0 (by decide) (hts (.fieldLink RX10 10 "GossamerGate" "tape" "LGossamerGate$Tape;") (List.mem_cons_of_mem _ (List.mem_append_left _ (List.mem_of_getElem? (i := 7) rfl)))) (fun _ h9 => h9) rfl dX10_rule_29 ?_
  refine lv_iconst (v := 0) hx hb dX10_rule_32 (by decide) ?_
  refine va_put (D := G) (ci := 7) (v := .int 0) (ty := .int) (C := RX7) (T := TX7) (N := 2) hx hb hts j_c_X10_rule_7 tyX7 tyX7_ok nmX7 hown hE.K hP hD hS 2 rfl rfl 1 (by decide) (hts (.fieldLink RX10 107 "GossamerGate$Tape" "length" "I") (List.mem_cons_of_mem _ (List.mem_append_left _ (List.mem_of_getElem? (i := 8) rfl)))) (fun _ h9 => h9) rfl (by decide +kernel) rfl rfl (Nat.le_of_ble_eq_true rfl) dX10_rule_33 (fun H locs hP hD hS => ?_)
  have hP : va_P G vwCl [(h0, .inr (10, [.ref (v 0), .ref (v 1), .ref (v 2), .ref (v 3), .ref (v 4), .int 0, .ref (v 5), .ref (v 6), .ref (v 7), .ref (v 8), .ref (v 9), .ref (v 10), .ref (v 11), .ref (v 12), .ref (v 13), .int 0])), (v 4, .inl (k 3, 6, .inr (.inr (.inr (.inr (va_up (va_up (va_up (va_up (va_up (va_up (fun _ => none) 0 (some (v 20))) 1 (some (v 21))) 2 (some (v 22))) 3 (some (v 23))) 4 (some (v 24))) 5 (some (v 25)))))))), ((v 0), .inr (7, [.ref (v 14), .int 0]))] H := hP
  have hD : va_D A [(h0, .inr (10, [.ref (v 0), .ref (v 1), .ref (v 2), .ref (v 3), .ref (v 4), .int 0, .ref (v 5), .ref (v 6), .ref (v 7), .ref (v 8), .ref (v 9), .ref (v 10), .ref (v 11), .ref (v 12), .ref (v 13), .int 0])), (v 4, .inl (k 3, 6, .inr (.inr (.inr (.inr (va_up (va_up (va_up (va_up (va_up (va_up (fun _ => none) 0 (some (v 20))) 1 (some (v 21))) 2 (some (v 22))) 3 (some (v 23))) 4 (some (v 24))) 5 (some (v 25)))))))), ((v 0), .inr (7, [.ref (v 14), .int 0]))] := hD
  refine lv_iload_n hx hb dX10_rule_36 rfl (lv_at hl 0 rfl) ?_
  refine lv_if_eq (tgt := 45) hx hb dX10_rule_37 (by decide) (fun h9 => absurd h9 (by decide)) (fun _ => ?_)
  refine lv_bipush (v := (-2)) hx hb dX10_rule_40 (by decide) ?_
  refine lv_iload_n hx hb dX10_rule_42 rfl (lv_at hl 0 rfl) ?_
  refine lv_isub hx hb dX10_rule_43 ?_
  refine gz_ni (v := (-3)) (by decide) ?_
  have hP9 := hP.sub (ws' := []) [] rfl
  have hD9 := hD.sub (ws' := []) [] (by decide) rfl
  exact W.iret (v := (-3)) hx hb hr (fun t ht hW => ⟨⟨(-3), (fun _ => 0), rfl, rfl, by rw [ht]; exact hP9, hD9⟩, hS.F ht⟩) hS.2.2 dX10_rule_44
set_option maxHeartbeats 4000000 in
set_option maxRecDepth 100000 in
theorem c_X7_addFour_0 (l : Launch) (G : va_G) (k : Nat → ClassId) (sa : Nat → Nat) (sz : Nat) (t : Nat) (tb : Nat) (a : Int32) (q : Nat → Int32) : Met l yX7_addFour vs_c_X7_addFour_0 ({ frames := 0, cells := 0, slots := 0, locals := 0 } : Room) (gP G k sa [.ref t, .int a] [(t, .inr (7, [.ref tb, .int 0])), (tb, .inl (k 0, 400, .inl q))] sz) (va_Qv (fun _ : Nat → Int32 => True) (gO G (va_A ([(t, .inr (7, [.ref tb, .int 0])), (tb, .inl (k 0, 400, .inl q))]) sz) (fun u => [(t, .inr (7, [.ref tb, .int 4])), (tb, .inl (k 0, 400, .inl u))])) (va_A ([(t, .inr (7, [.ref tb, .int 0])), (tb, .inl (k 0, 400, .inl q))]) sz)) 0 0 (va_A ([(t, .inr (7, [.ref tb, .int 0])), (tb, .inl (k 0, 400, .inl q))]) sz) := by
  refine gz_met (cc := cX7_addFour) (maxL := 3) (ret := none) (by decide) rfl (Nat.le_of_ble_eq_true rfl) ?_
  intro p_ e_ s_ m below_ meth_ c_ ls hx hb hr hml hts hown hlocks hin hP hE hD hA hS
  generalize hAe : va_A ([(t, .inr (7, [.ref tb, .int 0])), (tb, .inl (k 0, 400, .inl q))]) sz = A at hD hA hS ⊢
  intro hl
  have hl : lv_has ls 3 [(0, .ref t), (1, .int a)] := hl
  refine lv_bipush (v := 24) hx hb dX7_addFour_0 (by decide) ?_
  refine lv_istore_n (lv' := [(2, .int 24), (0, .ref t), (1, .int a)]) hx hb dX7_addFour_2 rfl hl (by decide) rfl (fun ls hl => ?_)
  refine lv_iload_n hx hb dX7_addFour_3 rfl (lv_at hl 0 rfl) ?_
  refine lv_if_lt (tgt := 49) hx hb dX7_addFour_4 (by decide) (fun h9 => absurd h9 (by decide)) (fun _ => ?_)
  refine lv_aload_n hx hb dX7_addFour_7 rfl (lv_at hl 1 rfl) ?_
  refine va_get (D := G) (ci := 7) (v := .int 0) (C := RX7) (T := TX7) (N := 2) hx hb hts j_c_X7_addFour_0_7 hown hE.K hP 0 rfl rfl 1 (by decide) (hts (.fieldLink RX7 13 "GossamerGate$Tape" "length" "I") (List.mem_cons_of_mem _ (List.mem_append_left _ (List.mem_of_getElem? (i := 0) rfl)))) (fun _ h9 => h9) rfl dX7_addFour_8 ?_
  refine lv_sipush (v := 400) hx hb dX7_addFour_11 (by decide) ?_
  refine lv_icmp_ge (tgt := 49) hx hb dX7_addFour_14 (by decide) (fun h9 => absurd h9 (by decide)) (fun _ => ?_)
  refine lv_aload_n hx hb dX7_addFour_17 rfl (lv_at hl 1 rfl) ?_
  refine va_get (D := G) (ci := 7) (v := .ref tb) (C := RX7) (T := TX7) (N := 2) hx hb hts j_c_X7_addFour_0_7 hown hE.K hP 0 rfl rfl 0 (by decide) (hts (.fieldLink RX7 9 "GossamerGate$Tape" "bytes" "[I") (List.mem_cons_of_mem _ (List.mem_append_left _ (List.mem_of_getElem? (i := 1) rfl)))) (fun _ h9 => h9) rfl dX7_addFour_18 ?_
  refine lv_aload_n hx hb dX7_addFour_21 rfl (lv_at hl 1 rfl) ?_
  refine va_get (D := G) (ci := 7) (v := .int 0) (C := RX7) (T := TX7) (N := 2) hx hb hts j_c_X7_addFour_0_7 hown hE.K hP 0 rfl rfl 1 (by decide) (hts (.fieldLink RX7 13 "GossamerGate$Tape" "length" "I") (List.mem_cons_of_mem _ (List.mem_append_left _ (List.mem_of_getElem? (i := 0) rfl)))) (fun _ h9 => h9) rfl dX7_addFour_22 ?_
  refine lv_iload_n hx hb dX7_addFour_25 rfl (lv_at hl 2 rfl) ?_
  refine lv_iload_n hx hb dX7_addFour_26 rfl (lv_at hl 0 rfl) ?_
  refine lv_ishr hx hb dX7_addFour_27 ?_
  refine lv_sipush (v := 255) hx hb dX7_addFour_28 (by decide) ?_
  refine lv_iand hx hb dX7_addFour_31 ?_
  refine lv_topi (fun x_1 ex_1 => ?_)
  refine va_iast hx hb hE.K hP hD hS 1 0 rfl rfl (gz_in (by decide)) dX7_addFour_32 (fun H locs hP hD hS => ?_)
  have hP : va_P G vwCl [(t, .inr (7, [.ref tb, .int 0])), (tb, .inl (k 0, 400, .inl (upd q 0 x_1)))] H := hP
  have hD : va_D A [(t, .inr (7, [.ref tb, .int 0])), (tb, .inl (k 0, 400, .inl (upd q 0 x_1)))] := hD
  refine lv_aload_n hx hb dX7_addFour_33 rfl (lv_at hl 1 rfl) ?_
  refine lv_dup hx hb dX7_addFour_34 rfl ?_
  refine va_get (D := G) (ci := 7) (v := .int 0) (C := RX7) (T := TX7) (N := 2) hx hb hts j_c_X7_addFour_0_7 hown hE.K hP 0 rfl rfl 1 (by decide) (hts (.fieldLink RX7 13 "GossamerGate$Tape" "length" "I") (List.mem_cons_of_mem _ (List.mem_append_left _ (List.mem_of_getElem? (i := 0) rfl)))) (fun _ h9 => h9) rfl dX7_addFour_35 ?_
  refine lv_iconst (v := 1) hx hb dX7_addFour_38 (by decide) ?_
  refine lv_iadd hx hb dX7_addFour_39 ?_
  refine gz_ni (v := 1) (by decide) ?_
  refine va_put (D := G) (ci := 7) (v := .int 1) (ty := .int) (C := RX7) (T := TX7) (N := 2) hx hb hts j_c_X7_addFour_0_7 tyX7 tyX7_ok nmX7 hown hE.K hP hD hS 0 rfl rfl 1 (by decide) (hts (.fieldLink RX7 13 "GossamerGate$Tape" "length" "I") (List.mem_cons_of_mem _ (List.mem_append_left _ (List.mem_of_getElem? (i := 0) rfl)))) (fun _ h9 => h9) rfl (by decide +kernel) rfl rfl (Nat.le_of_ble_eq_true rfl) dX7_addFour_40 (fun H locs hP hD hS => ?_)
  have hP : va_P G vwCl [(t, .inr (7, [.ref tb, .int 1])), (tb, .inl (k 0, 400, .inl (upd q 0 x_1)))] H := hP
  have hD : va_D A [(t, .inr (7, [.ref tb, .int 1])), (tb, .inl (k 0, 400, .inl (upd q 0 x_1)))] := hD
  refine lv_iinc (v := 16) (lv' := [(2, .int 16), (0, .ref t), (1, .int a)]) hx hb dX7_addFour_43 hl (k := 0) rfl (by decide) (by decide) rfl (fun ls hl => ?_)
  refine lv_goto (tgt := 3) hx hb dX7_addFour_46 (by decide) ?_
  refine lv_iload_n hx hb dX7_addFour_3 rfl (lv_at hl 0 rfl) ?_
  refine lv_if_lt (tgt := 49) hx hb dX7_addFour_4 (by decide) (fun h9 => absurd h9 (by decide)) (fun _ => ?_)
  refine lv_aload_n hx hb dX7_addFour_7 rfl (lv_at hl 1 rfl) ?_
  refine va_get (D := G) (ci := 7) (v := .int 1) (C := RX7) (T := TX7) (N := 2) hx hb hts j_c_X7_addFour_0_7 hown hE.K hP 0 rfl rfl 1 (by decide) (hts (.fieldLink RX7 13 "GossamerGate$Tape" "length" "I") (List.mem_cons_of_mem _ (List.mem_append_left _ (List.mem_of_getElem? (i := 0) rfl)))) (fun _ h9 => h9) rfl dX7_addFour_8 ?_
  refine lv_sipush (v := 400) hx hb dX7_addFour_11 (by decide) ?_
  refine lv_icmp_ge (tgt := 49) hx hb dX7_addFour_14 (by decide) (fun h9 => absurd h9 (by decide)) (fun _ => ?_)
  refine lv_aload_n hx hb dX7_addFour_17 rfl (lv_at hl 1 rfl) ?_
  refine va_get (D := G) (ci := 7) (v := .ref tb) (C := RX7) (T := TX7) (N := 2) hx hb hts j_c_X7_addFour_0_7 hown hE.K hP 0 rfl rfl 0 (by decide) (hts (.fieldLink RX7 9 "GossamerGate$Tape" "bytes" "[I") (List.mem_cons_of_mem _ (List.mem_append_left _ (List.mem_of_getElem? (i := 1) rfl)))) (fun _ h9 => h9) rfl dX7_addFour_18 ?_
  refine lv_aload_n hx hb dX7_addFour_21 rfl (lv_at hl 1 rfl) ?_
  refine va_get (D := G) (ci := 7) (v := .int 1) (C := RX7) (T := TX7) (N := 2) hx hb hts j_c_X7_addFour_0_7 hown hE.K hP 0 rfl rfl 1 (by decide) (hts (.fieldLink RX7 13 "GossamerGate$Tape" "length" "I") (List.mem_cons_of_mem _ (List.mem_append_left _ (List.mem_of_getElem? (i := 0) rfl)))) (fun _ h9 => h9) rfl dX7_addFour_22 ?_
  refine lv_iload_n hx hb dX7_addFour_25 rfl (lv_at hl 2 rfl) ?_
  refine lv_iload_n hx hb dX7_addFour_26 rfl (lv_at hl 0 rfl) ?_
  refine lv_ishr hx hb dX7_addFour_27 ?_
  refine lv_sipush (v := 255) hx hb dX7_addFour_28 (by decide) ?_
  refine lv_iand hx hb dX7_addFour_31 ?_
  refine lv_topi (fun x_2 ex_2 => ?_)
  refine va_iast hx hb hE.K hP hD hS 1 0 rfl rfl (gz_in (by decide)) dX7_addFour_32 (fun H locs hP hD hS => ?_)
  have hP : va_P G vwCl [(t, .inr (7, [.ref tb, .int 1])), (tb, .inl (k 0, 400, .inl (upd (upd q 0 x_1) 1 x_2)))] H := hP
  have hD : va_D A [(t, .inr (7, [.ref tb, .int 1])), (tb, .inl (k 0, 400, .inl (upd (upd q 0 x_1) 1 x_2)))] := hD
  refine lv_aload_n hx hb dX7_addFour_33 rfl (lv_at hl 1 rfl) ?_
  refine lv_dup hx hb dX7_addFour_34 rfl ?_
  refine va_get (D := G) (ci := 7) (v := .int 1) (C := RX7) (T := TX7) (N := 2) hx hb hts j_c_X7_addFour_0_7 hown hE.K hP 0 rfl rfl 1 (by decide) (hts (.fieldLink RX7 13 "GossamerGate$Tape" "length" "I") (List.mem_cons_of_mem _ (List.mem_append_left _ (List.mem_of_getElem? (i := 0) rfl)))) (fun _ h9 => h9) rfl dX7_addFour_35 ?_
  refine lv_iconst (v := 1) hx hb dX7_addFour_38 (by decide) ?_
  refine lv_iadd hx hb dX7_addFour_39 ?_
  refine gz_ni (v := 2) (by decide) ?_
  refine va_put (D := G) (ci := 7) (v := .int 2) (ty := .int) (C := RX7) (T := TX7) (N := 2) hx hb hts j_c_X7_addFour_0_7 tyX7 tyX7_ok nmX7 hown hE.K hP hD hS 0 rfl rfl 1 (by decide) (hts (.fieldLink RX7 13 "GossamerGate$Tape" "length" "I") (List.mem_cons_of_mem _ (List.mem_append_left _ (List.mem_of_getElem? (i := 0) rfl)))) (fun _ h9 => h9) rfl (by decide +kernel) rfl rfl (Nat.le_of_ble_eq_true rfl) dX7_addFour_40 (fun H locs hP hD hS => ?_)
  have hP : va_P G vwCl [(t, .inr (7, [.ref tb, .int 2])), (tb, .inl (k 0, 400, .inl (upd (upd q 0 x_1) 1 x_2)))] H := hP
  have hD : va_D A [(t, .inr (7, [.ref tb, .int 2])), (tb, .inl (k 0, 400, .inl (upd (upd q 0 x_1) 1 x_2)))] := hD
  refine lv_iinc (v := 8) (lv' := [(2, .int 8), (0, .ref t), (1, .int a)]) hx hb dX7_addFour_43 hl (k := 0) rfl (by decide) (by decide) rfl (fun ls hl => ?_)
  refine lv_goto (tgt := 3) hx hb dX7_addFour_46 (by decide) ?_
  refine lv_iload_n hx hb dX7_addFour_3 rfl (lv_at hl 0 rfl) ?_
  refine lv_if_lt (tgt := 49) hx hb dX7_addFour_4 (by decide) (fun h9 => absurd h9 (by decide)) (fun _ => ?_)
  refine lv_aload_n hx hb dX7_addFour_7 rfl (lv_at hl 1 rfl) ?_
  refine va_get (D := G) (ci := 7) (v := .int 2) (C := RX7) (T := TX7) (N := 2) hx hb hts j_c_X7_addFour_0_7 hown hE.K hP 0 rfl rfl 1 (by decide) (hts (.fieldLink RX7 13 "GossamerGate$Tape" "length" "I") (List.mem_cons_of_mem _ (List.mem_append_left _ (List.mem_of_getElem? (i := 0) rfl)))) (fun _ h9 => h9) rfl dX7_addFour_8 ?_
  refine lv_sipush (v := 400) hx hb dX7_addFour_11 (by decide) ?_
  refine lv_icmp_ge (tgt := 49) hx hb dX7_addFour_14 (by decide) (fun h9 => absurd h9 (by decide)) (fun _ => ?_)
  refine lv_aload_n hx hb dX7_addFour_17 rfl (lv_at hl 1 rfl) ?_
  refine va_get (D := G) (ci := 7) (v := .ref tb) (C := RX7) (T := TX7) (N := 2) hx hb hts j_c_X7_addFour_0_7 hown hE.K hP 0 rfl rfl 0 (by decide) (hts (.fieldLink RX7 9 "GossamerGate$Tape" "bytes" "[I") (List.mem_cons_of_mem _ (List.mem_append_left _ (List.mem_of_getElem? (i := 1) rfl)))) (fun _ h9 => h9) rfl dX7_addFour_18 ?_
  refine lv_aload_n hx hb dX7_addFour_21 rfl (lv_at hl 1 rfl) ?_
  refine va_get (D := G) (ci := 7) (v := .int 2) (C := RX7) (T := TX7) (N := 2) hx hb hts j_c_X7_addFour_0_7 hown hE.K hP 0 rfl rfl 1 (by decide) (hts (.fieldLink RX7 13 "GossamerGate$Tape" "length" "I") (List.mem_cons_of_mem _ (List.mem_append_left _ (List.mem_of_getElem? (i := 0) rfl)))) (fun _ h9 => h9) rfl dX7_addFour_22 ?_
  refine lv_iload_n hx hb dX7_addFour_25 rfl (lv_at hl 2 rfl) ?_
  refine lv_iload_n hx hb dX7_addFour_26 rfl (lv_at hl 0 rfl) ?_
  refine lv_ishr hx hb dX7_addFour_27 ?_
  refine lv_sipush (v := 255) hx hb dX7_addFour_28 (by decide) ?_
  refine lv_iand hx hb dX7_addFour_31 ?_
  refine lv_topi (fun x_3 ex_3 => ?_)
  refine va_iast hx hb hE.K hP hD hS 1 0 rfl rfl (gz_in (by decide)) dX7_addFour_32 (fun H locs hP hD hS => ?_)
  have hP : va_P G vwCl [(t, .inr (7, [.ref tb, .int 2])), (tb, .inl (k 0, 400, .inl (upd (upd (upd q 0 x_1) 1 x_2) 2 x_3)))] H := hP
  have hD : va_D A [(t, .inr (7, [.ref tb, .int 2])), (tb, .inl (k 0, 400, .inl (upd (upd (upd q 0 x_1) 1 x_2) 2 x_3)))] := hD
  refine lv_aload_n hx hb dX7_addFour_33 rfl (lv_at hl 1 rfl) ?_
  refine lv_dup hx hb dX7_addFour_34 rfl ?_
  refine va_get (D := G) (ci := 7) (v := .int 2) (C := RX7) (T := TX7) (N := 2) hx hb hts j_c_X7_addFour_0_7 hown hE.K hP 0 rfl rfl 1 (by decide) (hts (.fieldLink RX7 13 "GossamerGate$Tape" "length" "I") (List.mem_cons_of_mem _ (List.mem_append_left _ (List.mem_of_getElem? (i := 0) rfl)))) (fun _ h9 => h9) rfl dX7_addFour_35 ?_
  refine lv_iconst (v := 1) hx hb dX7_addFour_38 (by decide) ?_
  refine lv_iadd hx hb dX7_addFour_39 ?_
  refine gz_ni (v := 3) (by decide) ?_
  refine va_put (D := G) (ci := 7) (v := .int 3) (ty := .int) (C := RX7) (T := TX7) (N := 2) hx hb hts j_c_X7_addFour_0_7 tyX7 tyX7_ok nmX7 hown hE.K hP hD hS 0 rfl rfl 1 (by decide) (hts (.fieldLink RX7 13 "GossamerGate$Tape" "length" "I") (List.mem_cons_of_mem _ (List.mem_append_left _ (List.mem_of_getElem? (i := 0) rfl)))) (fun _ h9 => h9) rfl (by decide +kernel) rfl rfl (Nat.le_of_ble_eq_true rfl) dX7_addFour_40 (fun H locs hP hD hS => ?_)
  have hP : va_P G vwCl [(t, .inr (7, [.ref tb, .int 3])), (tb, .inl (k 0, 400, .inl (upd (upd (upd q 0 x_1) 1 x_2) 2 x_3)))] H := hP
  have hD : va_D A [(t, .inr (7, [.ref tb, .int 3])), (tb, .inl (k 0, 400, .inl (upd (upd (upd q 0 x_1) 1 x_2) 2 x_3)))] := hD
  refine lv_iinc (v := 0) (lv' := [(2, .int 0), (0, .ref t), (1, .int a)]) hx hb dX7_addFour_43 hl (k := 0) rfl (by decide) (by decide) rfl (fun ls hl => ?_)
  refine lv_goto (tgt := 3) hx hb dX7_addFour_46 (by decide) ?_
  refine lv_iload_n hx hb dX7_addFour_3 rfl (lv_at hl 0 rfl) ?_
  refine lv_if_lt (tgt := 49) hx hb dX7_addFour_4 (by decide) (fun h9 => absurd h9 (by decide)) (fun _ => ?_)
  refine lv_aload_n hx hb dX7_addFour_7 rfl (lv_at hl 1 rfl) ?_
  refine va_get (D := G) (ci := 7) (v := .int 3) (C := RX7) (T := TX7) (N := 2) hx hb hts j_c_X7_addFour_0_7 hown hE.K hP 0 rfl rfl 1 (by decide) (hts (.fieldLink RX7 13 "GossamerGate$Tape" "length" "I") (List.mem_cons_of_mem _ (List.mem_append_left _ (List.mem_of_getElem? (i := 0) rfl)))) (fun _ h9 => h9) rfl dX7_addFour_8 ?_
  refine lv_sipush (v := 400) hx hb dX7_addFour_11 (by decide) ?_
  refine lv_icmp_ge (tgt := 49) hx hb dX7_addFour_14 (by decide) (fun h9 => absurd h9 (by decide)) (fun _ => ?_)
  refine lv_aload_n hx hb dX7_addFour_17 rfl (lv_at hl 1 rfl) ?_
  refine va_get (D := G) (ci := 7) (v := .ref tb) (C := RX7) (T := TX7) (N := 2) hx hb hts j_c_X7_addFour_0_7 hown hE.K hP 0 rfl rfl 0 (by decide) (hts (.fieldLink RX7 9 "GossamerGate$Tape" "bytes" "[I") (List.mem_cons_of_mem _ (List.mem_append_left _ (List.mem_of_getElem? (i := 1) rfl)))) (fun _ h9 => h9) rfl dX7_addFour_18 ?_
  refine lv_aload_n hx hb dX7_addFour_21 rfl (lv_at hl 1 rfl) ?_
  refine va_get (D := G) (ci := 7) (v := .int 3) (C := RX7) (T := TX7) (N := 2) hx hb hts j_c_X7_addFour_0_7 hown hE.K hP 0 rfl rfl 1 (by decide) (hts (.fieldLink RX7 13 "GossamerGate$Tape" "length" "I") (List.mem_cons_of_mem _ (List.mem_append_left _ (List.mem_of_getElem? (i := 0) rfl)))) (fun _ h9 => h9) rfl dX7_addFour_22 ?_
  refine lv_iload_n hx hb dX7_addFour_25 rfl (lv_at hl 2 rfl) ?_
  refine lv_iload_n hx hb dX7_addFour_26 rfl (lv_at hl 0 rfl) ?_
  refine lv_ishr hx hb dX7_addFour_27 ?_
  refine lv_sipush (v := 255) hx hb dX7_addFour_28 (by decide) ?_
  refine lv_iand hx hb dX7_addFour_31 ?_
  refine lv_topi (fun x_4 ex_4 => ?_)
  refine va_iast hx hb hE.K hP hD hS 1 0 rfl rfl (gz_in (by decide)) dX7_addFour_32 (fun H locs hP hD hS => ?_)
  have hP : va_P G vwCl [(t, .inr (7, [.ref tb, .int 3])), (tb, .inl (k 0, 400, .inl (upd (upd (upd (upd q 0 x_1) 1 x_2) 2 x_3) 3 x_4)))] H := hP
  have hD : va_D A [(t, .inr (7, [.ref tb, .int 3])), (tb, .inl (k 0, 400, .inl (upd (upd (upd (upd q 0 x_1) 1 x_2) 2 x_3) 3 x_4)))] := hD
  refine lv_aload_n hx hb dX7_addFour_33 rfl (lv_at hl 1 rfl) ?_
  refine lv_dup hx hb dX7_addFour_34 rfl ?_
  refine va_get (D := G) (ci := 7) (v := .int 3) (C := RX7) (T := TX7) (N := 2) hx hb hts j_c_X7_addFour_0_7 hown hE.K hP 0 rfl rfl 1 (by decide) (hts (.fieldLink RX7 13 "GossamerGate$Tape" "length" "I") (List.mem_cons_of_mem _ (List.mem_append_left _ (List.mem_of_getElem? (i := 0) rfl)))) (fun _ h9 => h9) rfl dX7_addFour_35 ?_
  refine lv_iconst (v := 1) hx hb dX7_addFour_38 (by decide) ?_
  refine lv_iadd hx hb dX7_addFour_39 ?_
  refine gz_ni (v := 4) (by decide) ?_
  refine va_put (D := G) (ci := 7) (v := .int 4) (ty := .int) (C := RX7) (T := TX7) (N := 2) hx hb hts j_c_X7_addFour_0_7 tyX7 tyX7_ok nmX7 hown hE.K hP hD hS 0 rfl rfl 1 (by decide) (hts (.fieldLink RX7 13 "GossamerGate$Tape" "length" "I") (List.mem_cons_of_mem _ (List.mem_append_left _ (List.mem_of_getElem? (i := 0) rfl)))) (fun _ h9 => h9) rfl (by decide +kernel) rfl rfl (Nat.le_of_ble_eq_true rfl) dX7_addFour_40 (fun H locs hP hD hS => ?_)
  have hP : va_P G vwCl [(t, .inr (7, [.ref tb, .int 4])), (tb, .inl (k 0, 400, .inl (upd (upd (upd (upd q 0 x_1) 1 x_2) 2 x_3) 3 x_4)))] H := hP
  have hD : va_D A [(t, .inr (7, [.ref tb, .int 4])), (tb, .inl (k 0, 400, .inl (upd (upd (upd (upd q 0 x_1) 1 x_2) 2 x_3) 3 x_4)))] := hD
  refine lv_iinc (v := (-8)) (lv' := [(2, .int (-8)), (0, .ref t), (1, .int a)]) hx hb dX7_addFour_43 hl (k := 0) rfl (by decide) (by decide) rfl (fun ls hl => ?_)
  refine lv_goto (tgt := 3) hx hb dX7_addFour_46 (by decide) ?_
  refine lv_iload_n hx hb dX7_addFour_3 rfl (lv_at hl 0 rfl) ?_
  refine lv_if_lt (tgt := 49) hx hb dX7_addFour_4 (by decide) (fun _ => ?_) (fun h9 => absurd h9 (by decide))
  have hP9 := hP.sub (ws' := [(t, .inr (7, [.ref tb, .int 4])), (tb, .inl (k 0, 400, .inl (upd (upd (upd (upd q 0 x_1) 1 x_2) 2 x_3) 3 x_4)))]) [0, 1] rfl
  have hD9 := hD.sub (ws' := [(t, .inr (7, [.ref tb, .int 4])), (tb, .inl (k 0, 400, .inl (upd (upd (upd (upd q 0 x_1) 1 x_2) 2 x_3) 3 x_4)))]) [0, 1] (by decide) rfl
  exact W.vret hx hb hr (fun t ht hW => ⟨⟨upd (upd (upd (upd q 0 x_1) 1 x_2) 2 x_3) 3 x_4, rfl, trivial, by rw [ht]; exact hP9, hD9⟩, hS.F ht⟩) hS.2.2 dX7_addFour_49
set_option maxHeartbeats 4000000 in
set_option maxRecDepth 100000 in
theorem c_X7_addFour_4 (l : Launch) (G : va_G) (k : Nat → ClassId) (sa : Nat → Nat) (sz : Nat) (t : Nat) (tb : Nat) (a : Int32) (q : Nat → Int32) : Met l yX7_addFour vs_c_X7_addFour_4 ({ frames := 0, cells := 0, slots := 0, locals := 0 } : Room) (gP G k sa [.ref t, .int a] [(t, .inr (7, [.ref tb, .int 4])), (tb, .inl (k 0, 400, .inl q))] sz) (va_Qv (fun _ : Nat → Int32 => True) (gO G (va_A ([(t, .inr (7, [.ref tb, .int 4])), (tb, .inl (k 0, 400, .inl q))]) sz) (fun u => [(t, .inr (7, [.ref tb, .int 8])), (tb, .inl (k 0, 400, .inl u))])) (va_A ([(t, .inr (7, [.ref tb, .int 4])), (tb, .inl (k 0, 400, .inl q))]) sz)) 0 0 (va_A ([(t, .inr (7, [.ref tb, .int 4])), (tb, .inl (k 0, 400, .inl q))]) sz) := by
  refine gz_met (cc := cX7_addFour) (maxL := 3) (ret := none) (by decide) rfl (Nat.le_of_ble_eq_true rfl) ?_
  intro p_ e_ s_ m below_ meth_ c_ ls hx hb hr hml hts hown hlocks hin hP hE hD hA hS
  generalize hAe : va_A ([(t, .inr (7, [.ref tb, .int 4])), (tb, .inl (k 0, 400, .inl q))]) sz = A at hD hA hS ⊢
  intro hl
  have hl : lv_has ls 3 [(0, .ref t), (1, .int a)] := hl
  refine lv_bipush (v := 24) hx hb dX7_addFour_0 (by decide) ?_
  refine lv_istore_n (lv' := [(2, .int 24), (0, .ref t), (1, .int a)]) hx hb dX7_addFour_2 rfl hl (by decide) rfl (fun ls hl => ?_)
  refine lv_iload_n hx hb dX7_addFour_3 rfl (lv_at hl 0 rfl) ?_
  refine lv_if_lt (tgt := 49) hx hb dX7_addFour_4 (by decide) (fun h9 => absurd h9 (by decide)) (fun _ => ?_)
  refine lv_aload_n hx hb dX7_addFour_7 rfl (lv_at hl 1 rfl) ?_
  refine va_get (D := G) (ci := 7) (v := .int 4) (C := RX7) (T := TX7) (N := 2) hx hb hts j_c_X7_addFour_4_7 hown hE.K hP 0 rfl rfl 1 (by decide) (hts (.fieldLink RX7 13 "GossamerGate$Tape" "length" "I") (List.mem_cons_of_mem _ (List.mem_append_left _ (List.mem_of_getElem? (i := 0) rfl)))) (fun _ h9 => h9) rfl dX7_addFour_8 ?_
  refine lv_sipush (v := 400) hx hb dX7_addFour_11 (by decide) ?_
  refine lv_icmp_ge (tgt := 49) hx hb dX7_addFour_14 (by decide) (fun h9 => absurd h9 (by decide)) (fun _ => ?_)
  refine lv_aload_n hx hb dX7_addFour_17 rfl (lv_at hl 1 rfl) ?_
  refine va_get (D := G) (ci := 7) (v := .ref tb) (C := RX7) (T := TX7) (N := 2) hx hb hts j_c_X7_addFour_4_7 hown hE.K hP 0 rfl rfl 0 (by decide) (hts (.fieldLink RX7 9 "GossamerGate$Tape" "bytes" "[I") (List.mem_cons_of_mem _ (List.mem_append_left _ (List.mem_of_getElem? (i := 1) rfl)))) (fun _ h9 => h9) rfl dX7_addFour_18 ?_
  refine lv_aload_n hx hb dX7_addFour_21 rfl (lv_at hl 1 rfl) ?_
  refine va_get (D := G) (ci := 7) (v := .int 4) (C := RX7) (T := TX7) (N := 2) hx hb hts j_c_X7_addFour_4_7 hown hE.K hP 0 rfl rfl 1 (by decide) (hts (.fieldLink RX7 13 "GossamerGate$Tape" "length" "I") (List.mem_cons_of_mem _ (List.mem_append_left _ (List.mem_of_getElem? (i := 0) rfl)))) (fun _ h9 => h9) rfl dX7_addFour_22 ?_
  refine lv_iload_n hx hb dX7_addFour_25 rfl (lv_at hl 2 rfl) ?_
  refine lv_iload_n hx hb dX7_addFour_26 rfl (lv_at hl 0 rfl) ?_
  refine lv_ishr hx hb dX7_addFour_27 ?_
  refine lv_sipush (v := 255) hx hb dX7_addFour_28 (by decide) ?_
  refine lv_iand hx hb dX7_addFour_31 ?_
  refine lv_topi (fun x_1 ex_1 => ?_)
  refine va_iast hx hb hE.K hP hD hS 1 0 rfl rfl (gz_in (by decide)) dX7_addFour_32 (fun H locs hP hD hS => ?_)
  have hP : va_P G vwCl [(t, .inr (7, [.ref tb, .int 4])), (tb, .inl (k 0, 400, .inl (upd q 4 x_1)))] H := hP
  have hD : va_D A [(t, .inr (7, [.ref tb, .int 4])), (tb, .inl (k 0, 400, .inl (upd q 4 x_1)))] := hD
  refine lv_aload_n hx hb dX7_addFour_33 rfl (lv_at hl 1 rfl) ?_
  refine lv_dup hx hb dX7_addFour_34 rfl ?_
  refine va_get (D := G) (ci := 7) (v := .int 4) (C := RX7) (T := TX7) (N := 2) hx hb hts j_c_X7_addFour_4_7 hown hE.K hP 0 rfl rfl 1 (by decide) (hts (.fieldLink RX7 13 "GossamerGate$Tape" "length" "I") (List.mem_cons_of_mem _ (List.mem_append_left _ (List.mem_of_getElem? (i := 0) rfl)))) (fun _ h9 => h9) rfl dX7_addFour_35 ?_
  refine lv_iconst (v := 1) hx hb dX7_addFour_38 (by decide) ?_
  refine lv_iadd hx hb dX7_addFour_39 ?_
  refine gz_ni (v := 5) (by decide) ?_
  refine va_put (D := G) (ci := 7) (v := .int 5) (ty := .int) (C := RX7) (T := TX7) (N := 2) hx hb hts j_c_X7_addFour_4_7 tyX7 tyX7_ok nmX7 hown hE.K hP hD hS 0 rfl rfl 1 (by decide) (hts (.fieldLink RX7 13 "GossamerGate$Tape" "length" "I") (List.mem_cons_of_mem _ (List.mem_append_left _ (List.mem_of_getElem? (i := 0) rfl)))) (fun _ h9 => h9) rfl (by decide +kernel) rfl rfl (Nat.le_of_ble_eq_true rfl) dX7_addFour_40 (fun H locs hP hD hS => ?_)
  have hP : va_P G vwCl [(t, .inr (7, [.ref tb, .int 5])), (tb, .inl (k 0, 400, .inl (upd q 4 x_1)))] H := hP
  have hD : va_D A [(t, .inr (7, [.ref tb, .int 5])), (tb, .inl (k 0, 400, .inl (upd q 4 x_1)))] := hD
  refine lv_iinc (v := 16) (lv' := [(2, .int 16), (0, .ref t), (1, .int a)]) hx hb dX7_addFour_43 hl (k := 0) rfl (by decide) (by decide) rfl (fun ls hl => ?_)
  refine lv_goto (tgt := 3) hx hb dX7_addFour_46 (by decide) ?_
  refine lv_iload_n hx hb dX7_addFour_3 rfl (lv_at hl 0 rfl) ?_
  refine lv_if_lt (tgt := 49) hx hb dX7_addFour_4 (by decide) (fun h9 => absurd h9 (by decide)) (fun _ => ?_)
  refine lv_aload_n hx hb dX7_addFour_7 rfl (lv_at hl 1 rfl) ?_
  refine va_get (D := G) (ci := 7) (v := .int 5) (C := RX7) (T := TX7) (N := 2) hx hb hts j_c_X7_addFour_4_7 hown hE.K hP 0 rfl rfl 1 (by decide) (hts (.fieldLink RX7 13 "GossamerGate$Tape" "length" "I") (List.mem_cons_of_mem _ (List.mem_append_left _ (List.mem_of_getElem? (i := 0) rfl)))) (fun _ h9 => h9) rfl dX7_addFour_8 ?_
  refine lv_sipush (v := 400) hx hb dX7_addFour_11 (by decide) ?_
  refine lv_icmp_ge (tgt := 49) hx hb dX7_addFour_14 (by decide) (fun h9 => absurd h9 (by decide)) (fun _ => ?_)
  refine lv_aload_n hx hb dX7_addFour_17 rfl (lv_at hl 1 rfl) ?_
  refine va_get (D := G) (ci := 7) (v := .ref tb) (C := RX7) (T := TX7) (N := 2) hx hb hts j_c_X7_addFour_4_7 hown hE.K hP 0 rfl rfl 0 (by decide) (hts (.fieldLink RX7 9 "GossamerGate$Tape" "bytes" "[I") (List.mem_cons_of_mem _ (List.mem_append_left _ (List.mem_of_getElem? (i := 1) rfl)))) (fun _ h9 => h9) rfl dX7_addFour_18 ?_
  refine lv_aload_n hx hb dX7_addFour_21 rfl (lv_at hl 1 rfl) ?_
  refine va_get (D := G) (ci := 7) (v := .int 5) (C := RX7) (T := TX7) (N := 2) hx hb hts j_c_X7_addFour_4_7 hown hE.K hP 0 rfl rfl 1 (by decide) (hts (.fieldLink RX7 13 "GossamerGate$Tape" "length" "I") (List.mem_cons_of_mem _ (List.mem_append_left _ (List.mem_of_getElem? (i := 0) rfl)))) (fun _ h9 => h9) rfl dX7_addFour_22 ?_
  refine lv_iload_n hx hb dX7_addFour_25 rfl (lv_at hl 2 rfl) ?_
  refine lv_iload_n hx hb dX7_addFour_26 rfl (lv_at hl 0 rfl) ?_
  refine lv_ishr hx hb dX7_addFour_27 ?_
  refine lv_sipush (v := 255) hx hb dX7_addFour_28 (by decide) ?_
  refine lv_iand hx hb dX7_addFour_31 ?_
  refine lv_topi (fun x_2 ex_2 => ?_)
  refine va_iast hx hb hE.K hP hD hS 1 0 rfl rfl (gz_in (by decide)) dX7_addFour_32 (fun H locs hP hD hS => ?_)
  have hP : va_P G vwCl [(t, .inr (7, [.ref tb, .int 5])), (tb, .inl (k 0, 400, .inl (upd (upd q 4 x_1) 5 x_2)))] H := hP
  have hD : va_D A [(t, .inr (7, [.ref tb, .int 5])), (tb, .inl (k 0, 400, .inl (upd (upd q 4 x_1) 5 x_2)))] := hD
  refine lv_aload_n hx hb dX7_addFour_33 rfl (lv_at hl 1 rfl) ?_
  refine lv_dup hx hb dX7_addFour_34 rfl ?_
  refine va_get (D := G) (ci := 7) (v := .int 5) (C := RX7) (T := TX7) (N := 2) hx hb hts j_c_X7_addFour_4_7 hown hE.K hP 0 rfl rfl 1 (by decide) (hts (.fieldLink RX7 13 "GossamerGate$Tape" "length" "I") (List.mem_cons_of_mem _ (List.mem_append_left _ (List.mem_of_getElem? (i := 0) rfl)))) (fun _ h9 => h9) rfl dX7_addFour_35 ?_
  refine lv_iconst (v := 1) hx hb dX7_addFour_38 (by decide) ?_
  refine lv_iadd hx hb dX7_addFour_39 ?_
  refine gz_ni (v := 6) (by decide) ?_
  refine va_put (D := G) (ci := 7) (v := .int 6) (ty := .int) (C := RX7) (T := TX7) (N := 2) hx hb hts j_c_X7_addFour_4_7 tyX7 tyX7_ok nmX7 hown hE.K hP hD hS 0 rfl rfl 1 (by decide) (hts (.fieldLink RX7 13 "GossamerGate$Tape" "length" "I") (List.mem_cons_of_mem _ (List.mem_append_left _ (List.mem_of_getElem? (i := 0) rfl)))) (fun _ h9 => h9) rfl (by decide +kernel) rfl rfl (Nat.le_of_ble_eq_true rfl) dX7_addFour_40 (fun H locs hP hD hS => ?_)
  have hP : va_P G vwCl [(t, .inr (7, [.ref tb, .int 6])), (tb, .inl (k 0, 400, .inl (upd (upd q 4 x_1) 5 x_2)))] H := hP
  have hD : va_D A [(t, .inr (7, [.ref tb, .int 6])), (tb, .inl (k 0, 400, .inl (upd (upd q 4 x_1) 5 x_2)))] := hD
  refine lv_iinc (v := 8) (lv' := [(2, .int 8), (0, .ref t), (1, .int a)]) hx hb dX7_addFour_43 hl (k := 0) rfl (by decide) (by decide) rfl (fun ls hl => ?_)
  refine lv_goto (tgt := 3) hx hb dX7_addFour_46 (by decide) ?_
  refine lv_iload_n hx hb dX7_addFour_3 rfl (lv_at hl 0 rfl) ?_
  refine lv_if_lt (tgt := 49) hx hb dX7_addFour_4 (by decide) (fun h9 => absurd h9 (by decide)) (fun _ => ?_)
  refine lv_aload_n hx hb dX7_addFour_7 rfl (lv_at hl 1 rfl) ?_
  refine va_get (D := G) (ci := 7) (v := .int 6) (C := RX7) (T := TX7) (N := 2) hx hb hts j_c_X7_addFour_4_7 hown hE.K hP 0 rfl rfl 1 (by decide) (hts (.fieldLink RX7 13 "GossamerGate$Tape" "length" "I") (List.mem_cons_of_mem _ (List.mem_append_left _ (List.mem_of_getElem? (i := 0) rfl)))) (fun _ h9 => h9) rfl dX7_addFour_8 ?_
  refine lv_sipush (v := 400) hx hb dX7_addFour_11 (by decide) ?_
  refine lv_icmp_ge (tgt := 49) hx hb dX7_addFour_14 (by decide) (fun h9 => absurd h9 (by decide)) (fun _ => ?_)
  refine lv_aload_n hx hb dX7_addFour_17 rfl (lv_at hl 1 rfl) ?_
  refine va_get (D := G) (ci := 7) (v := .ref tb) (C := RX7) (T := TX7) (N := 2) hx hb hts j_c_X7_addFour_4_7 hown hE.K hP 0 rfl rfl 0 (by decide) (hts (.fieldLink RX7 9 "GossamerGate$Tape" "bytes" "[I") (List.mem_cons_of_mem _ (List.mem_append_left _ (List.mem_of_getElem? (i := 1) rfl)))) (fun _ h9 => h9) rfl dX7_addFour_18 ?_
  refine lv_aload_n hx hb dX7_addFour_21 rfl (lv_at hl 1 rfl) ?_
  refine va_get (D := G) (ci := 7) (v := .int 6) (C := RX7) (T := TX7) (N := 2) hx hb hts j_c_X7_addFour_4_7 hown hE.K hP 0 rfl rfl 1 (by decide) (hts (.fieldLink RX7 13 "GossamerGate$Tape" "length" "I") (List.mem_cons_of_mem _ (List.mem_append_left _ (List.mem_of_getElem? (i := 0) rfl)))) (fun _ h9 => h9) rfl dX7_addFour_22 ?_
  refine lv_iload_n hx hb dX7_addFour_25 rfl (lv_at hl 2 rfl) ?_
  refine lv_iload_n hx hb dX7_addFour_26 rfl (lv_at hl 0 rfl) ?_
  refine lv_ishr hx hb dX7_addFour_27 ?_
  refine lv_sipush (v := 255) hx hb dX7_addFour_28 (by decide) ?_
  refine lv_iand hx hb dX7_addFour_31 ?_
  refine lv_topi (fun x_3 ex_3 => ?_)
  refine va_iast hx hb hE.K hP hD hS 1 0 rfl rfl (gz_in (by decide)) dX7_addFour_32 (fun H locs hP hD hS => ?_)
  have hP : va_P G vwCl [(t, .inr (7, [.ref tb, .int 6])), (tb, .inl (k 0, 400, .inl (upd (upd (upd q 4 x_1) 5 x_2) 6 x_3)))] H := hP
  have hD : va_D A [(t, .inr (7, [.ref tb, .int 6])), (tb, .inl (k 0, 400, .inl (upd (upd (upd q 4 x_1) 5 x_2) 6 x_3)))] := hD
  refine lv_aload_n hx hb dX7_addFour_33 rfl (lv_at hl 1 rfl) ?_
  refine lv_dup hx hb dX7_addFour_34 rfl ?_
  refine va_get (D := G) (ci := 7) (v := .int 6) (C := RX7) (T := TX7) (N := 2) hx hb hts j_c_X7_addFour_4_7 hown hE.K hP 0 rfl rfl 1 (by decide) (hts (.fieldLink RX7 13 "GossamerGate$Tape" "length" "I") (List.mem_cons_of_mem _ (List.mem_append_left _ (List.mem_of_getElem? (i := 0) rfl)))) (fun _ h9 => h9) rfl dX7_addFour_35 ?_
  refine lv_iconst (v := 1) hx hb dX7_addFour_38 (by decide) ?_
  refine lv_iadd hx hb dX7_addFour_39 ?_
  refine gz_ni (v := 7) (by decide) ?_
  refine va_put (D := G) (ci := 7) (v := .int 7) (ty := .int) (C := RX7) (T := TX7) (N := 2) hx hb hts j_c_X7_addFour_4_7 tyX7 tyX7_ok nmX7 hown hE.K hP hD hS 0 rfl rfl 1 (by decide) (hts (.fieldLink RX7 13 "GossamerGate$Tape" "length" "I") (List.mem_cons_of_mem _ (List.mem_append_left _ (List.mem_of_getElem? (i := 0) rfl)))) (fun _ h9 => h9) rfl (by decide +kernel) rfl rfl (Nat.le_of_ble_eq_true rfl) dX7_addFour_40 (fun H locs hP hD hS => ?_)
  have hP : va_P G vwCl [(t, .inr (7, [.ref tb, .int 7])), (tb, .inl (k 0, 400, .inl (upd (upd (upd q 4 x_1) 5 x_2) 6 x_3)))] H := hP
  have hD : va_D A [(t, .inr (7, [.ref tb, .int 7])), (tb, .inl (k 0, 400, .inl (upd (upd (upd q 4 x_1) 5 x_2) 6 x_3)))] := hD
  refine lv_iinc (v := 0) (lv' := [(2, .int 0), (0, .ref t), (1, .int a)]) hx hb dX7_addFour_43 hl (k := 0) rfl (by decide) (by decide) rfl (fun ls hl => ?_)
  refine lv_goto (tgt := 3) hx hb dX7_addFour_46 (by decide) ?_
  refine lv_iload_n hx hb dX7_addFour_3 rfl (lv_at hl 0 rfl) ?_
  refine lv_if_lt (tgt := 49) hx hb dX7_addFour_4 (by decide) (fun h9 => absurd h9 (by decide)) (fun _ => ?_)
  refine lv_aload_n hx hb dX7_addFour_7 rfl (lv_at hl 1 rfl) ?_
  refine va_get (D := G) (ci := 7) (v := .int 7) (C := RX7) (T := TX7) (N := 2) hx hb hts j_c_X7_addFour_4_7 hown hE.K hP 0 rfl rfl 1 (by decide) (hts (.fieldLink RX7 13 "GossamerGate$Tape" "length" "I") (List.mem_cons_of_mem _ (List.mem_append_left _ (List.mem_of_getElem? (i := 0) rfl)))) (fun _ h9 => h9) rfl dX7_addFour_8 ?_
  refine lv_sipush (v := 400) hx hb dX7_addFour_11 (by decide) ?_
  refine lv_icmp_ge (tgt := 49) hx hb dX7_addFour_14 (by decide) (fun h9 => absurd h9 (by decide)) (fun _ => ?_)
  refine lv_aload_n hx hb dX7_addFour_17 rfl (lv_at hl 1 rfl) ?_
  refine va_get (D := G) (ci := 7) (v := .ref tb) (C := RX7) (T := TX7) (N := 2) hx hb hts j_c_X7_addFour_4_7 hown hE.K hP 0 rfl rfl 0 (by decide) (hts (.fieldLink RX7 9 "GossamerGate$Tape" "bytes" "[I") (List.mem_cons_of_mem _ (List.mem_append_left _ (List.mem_of_getElem? (i := 1) rfl)))) (fun _ h9 => h9) rfl dX7_addFour_18 ?_
  refine lv_aload_n hx hb dX7_addFour_21 rfl (lv_at hl 1 rfl) ?_
  refine va_get (D := G) (ci := 7) (v := .int 7) (C := RX7) (T := TX7) (N := 2) hx hb hts j_c_X7_addFour_4_7 hown hE.K hP 0 rfl rfl 1 (by decide) (hts (.fieldLink RX7 13 "GossamerGate$Tape" "length" "I") (List.mem_cons_of_mem _ (List.mem_append_left _ (List.mem_of_getElem? (i := 0) rfl)))) (fun _ h9 => h9) rfl dX7_addFour_22 ?_
  refine lv_iload_n hx hb dX7_addFour_25 rfl (lv_at hl 2 rfl) ?_
  refine lv_iload_n hx hb dX7_addFour_26 rfl (lv_at hl 0 rfl) ?_
  refine lv_ishr hx hb dX7_addFour_27 ?_
  refine lv_sipush (v := 255) hx hb dX7_addFour_28 (by decide) ?_
  refine lv_iand hx hb dX7_addFour_31 ?_
  refine lv_topi (fun x_4 ex_4 => ?_)
  refine va_iast hx hb hE.K hP hD hS 1 0 rfl rfl (gz_in (by decide)) dX7_addFour_32 (fun H locs hP hD hS => ?_)
  have hP : va_P G vwCl [(t, .inr (7, [.ref tb, .int 7])), (tb, .inl (k 0, 400, .inl (upd (upd (upd (upd q 4 x_1) 5 x_2) 6 x_3) 7 x_4)))] H := hP
  have hD : va_D A [(t, .inr (7, [.ref tb, .int 7])), (tb, .inl (k 0, 400, .inl (upd (upd (upd (upd q 4 x_1) 5 x_2) 6 x_3) 7 x_4)))] := hD
  refine lv_aload_n hx hb dX7_addFour_33 rfl (lv_at hl 1 rfl) ?_
  refine lv_dup hx hb dX7_addFour_34 rfl ?_
  refine va_get (D := G) (ci := 7) (v := .int 7) (C := RX7) (T := TX7) (N := 2) hx hb hts j_c_X7_addFour_4_7 hown hE.K hP 0 rfl rfl 1 (by decide) (hts (.fieldLink RX7 13 "GossamerGate$Tape" "length" "I") (List.mem_cons_of_mem _ (List.mem_append_left _ (List.mem_of_getElem? (i := 0) rfl)))) (fun _ h9 => h9) rfl dX7_addFour_35 ?_
  refine lv_iconst (v := 1) hx hb dX7_addFour_38 (by decide) ?_
  refine lv_iadd hx hb dX7_addFour_39 ?_
  refine gz_ni (v := 8) (by decide) ?_
  refine va_put (D := G) (ci := 7) (v := .int 8) (ty := .int) (C := RX7) (T := TX7) (N := 2) hx hb hts j_c_X7_addFour_4_7 tyX7 tyX7_ok nmX7 hown hE.K hP hD hS 0 rfl rfl 1 (by decide) (hts (.fieldLink RX7 13 "GossamerGate$Tape" "length" "I") (List.mem_cons_of_mem _ (List.mem_append_left _ (List.mem_of_getElem? (i := 0) rfl)))) (fun _ h9 => h9) rfl (by decide +kernel) rfl rfl (Nat.le_of_ble_eq_true rfl) dX7_addFour_40 (fun H locs hP hD hS => ?_)
  have hP : va_P G vwCl [(t, .inr (7, [.ref tb, .int 8])), (tb, .inl (k 0, 400, .inl (upd (upd (upd (upd q 4 x_1) 5 x_2) 6 x_3) 7 x_4)))] H := hP
  have hD : va_D A [(t, .inr (7, [.ref tb, .int 8])), (tb, .inl (k 0, 400, .inl (upd (upd (upd (upd q 4 x_1) 5 x_2) 6 x_3) 7 x_4)))] := hD
  refine lv_iinc (v := (-8)) (lv' := [(2, .int (-8)), (0, .ref t), (1, .int a)]) hx hb dX7_addFour_43 hl (k := 0) rfl (by decide) (by decide) rfl (fun ls hl => ?_)
  refine lv_goto (tgt := 3) hx hb dX7_addFour_46 (by decide) ?_
  refine lv_iload_n hx hb dX7_addFour_3 rfl (lv_at hl 0 rfl) ?_
  refine lv_if_lt (tgt := 49) hx hb dX7_addFour_4 (by decide) (fun _ => ?_) (fun h9 => absurd h9 (by decide))
  have hP9 := hP.sub (ws' := [(t, .inr (7, [.ref tb, .int 8])), (tb, .inl (k 0, 400, .inl (upd (upd (upd (upd q 4 x_1) 5 x_2) 6 x_3) 7 x_4)))]) [0, 1] rfl
  have hD9 := hD.sub (ws' := [(t, .inr (7, [.ref tb, .int 8])), (tb, .inl (k 0, 400, .inl (upd (upd (upd (upd q 4 x_1) 5 x_2) 6 x_3) 7 x_4)))]) [0, 1] (by decide) rfl
  exact W.vret hx hb hr (fun t ht hW => ⟨⟨upd (upd (upd (upd q 4 x_1) 5 x_2) 6 x_3) 7 x_4, rfl, trivial, by rw [ht]; exact hP9, hD9⟩, hS.F ht⟩) hS.2.2 dX7_addFour_49
set_option maxHeartbeats 4000000 in
set_option maxRecDepth 100000 in
theorem c_X7_addFour_8 (l : Launch) (G : va_G) (k : Nat → ClassId) (sa : Nat → Nat) (sz : Nat) (t : Nat) (tb : Nat) (a : Int32) (q : Nat → Int32) : Met l yX7_addFour vs_c_X7_addFour_8 ({ frames := 0, cells := 0, slots := 0, locals := 0 } : Room) (gP G k sa [.ref t, .int a] [(t, .inr (7, [.ref tb, .int 8])), (tb, .inl (k 0, 400, .inl q))] sz) (va_Qv (fun _ : Nat → Int32 => True) (gO G (va_A ([(t, .inr (7, [.ref tb, .int 8])), (tb, .inl (k 0, 400, .inl q))]) sz) (fun u => [(t, .inr (7, [.ref tb, .int 12])), (tb, .inl (k 0, 400, .inl u))])) (va_A ([(t, .inr (7, [.ref tb, .int 8])), (tb, .inl (k 0, 400, .inl q))]) sz)) 0 0 (va_A ([(t, .inr (7, [.ref tb, .int 8])), (tb, .inl (k 0, 400, .inl q))]) sz) := by
  refine gz_met (cc := cX7_addFour) (maxL := 3) (ret := none) (by decide) rfl (Nat.le_of_ble_eq_true rfl) ?_
  intro p_ e_ s_ m below_ meth_ c_ ls hx hb hr hml hts hown hlocks hin hP hE hD hA hS
  generalize hAe : va_A ([(t, .inr (7, [.ref tb, .int 8])), (tb, .inl (k 0, 400, .inl q))]) sz = A at hD hA hS ⊢
  intro hl
  have hl : lv_has ls 3 [(0, .ref t), (1, .int a)] := hl
  refine lv_bipush (v := 24) hx hb dX7_addFour_0 (by decide) ?_
  refine lv_istore_n (lv' := [(2, .int 24), (0, .ref t), (1, .int a)]) hx hb dX7_addFour_2 rfl hl (by decide) rfl (fun ls hl => ?_)
  refine lv_iload_n hx hb dX7_addFour_3 rfl (lv_at hl 0 rfl) ?_
  refine lv_if_lt (tgt := 49) hx hb dX7_addFour_4 (by decide) (fun h9 => absurd h9 (by decide)) (fun _ => ?_)
  refine lv_aload_n hx hb dX7_addFour_7 rfl (lv_at hl 1 rfl) ?_
  refine va_get (D := G) (ci := 7) (v := .int 8) (C := RX7) (T := TX7) (N := 2) hx hb hts j_c_X7_addFour_8_7 hown hE.K hP 0 rfl rfl 1 (by decide) (hts (.fieldLink RX7 13 "GossamerGate$Tape" "length" "I") (List.mem_cons_of_mem _ (List.mem_append_left _ (List.mem_of_getElem? (i := 0) rfl)))) (fun _ h9 => h9) rfl dX7_addFour_8 ?_
  refine lv_sipush (v := 400) hx hb dX7_addFour_11 (by decide) ?_
  refine lv_icmp_ge (tgt := 49) hx hb dX7_addFour_14 (by decide) (fun h9 => absurd h9 (by decide)) (fun _ => ?_)
  refine lv_aload_n hx hb dX7_addFour_17 rfl (lv_at hl 1 rfl) ?_
  refine va_get (D := G) (ci := 7) (v := .ref tb) (C := RX7) (T := TX7) (N := 2) hx hb hts j_c_X7_addFour_8_7 hown hE.K hP 0 rfl rfl 0 (by decide) (hts (.fieldLink RX7 9 "GossamerGate$Tape" "bytes" "[I") (List.mem_cons_of_mem _ (List.mem_append_left _ (List.mem_of_getElem? (i := 1) rfl)))) (fun _ h9 => h9) rfl dX7_addFour_18 ?_
  refine lv_aload_n hx hb dX7_addFour_21 rfl (lv_at hl 1 rfl) ?_
  refine va_get (D := G) (ci := 7) (v := .int 8) (C := RX7) (T := TX7) (N := 2) hx hb hts j_c_X7_addFour_8_7 hown hE.K hP 0 rfl rfl 1 (by decide) (hts (.fieldLink RX7 13 "GossamerGate$Tape" "length" "I") (List.mem_cons_of_mem _ (List.mem_append_left _ (List.mem_of_getElem? (i := 0) rfl)))) (fun _ h9 => h9) rfl dX7_addFour_22 ?_
  refine lv_iload_n hx hb dX7_addFour_25 rfl (lv_at hl 2 rfl) ?_
  refine lv_iload_n hx hb dX7_addFour_26 rfl (lv_at hl 0 rfl) ?_
  refine lv_ishr hx hb dX7_addFour_27 ?_
  refine lv_sipush (v := 255) hx hb dX7_addFour_28 (by decide) ?_
  refine lv_iand hx hb dX7_addFour_31 ?_
  refine lv_topi (fun x_1 ex_1 => ?_)
  refine va_iast hx hb hE.K hP hD hS 1 0 rfl rfl (gz_in (by decide)) dX7_addFour_32 (fun H locs hP hD hS => ?_)
  have hP : va_P G vwCl [(t, .inr (7, [.ref tb, .int 8])), (tb, .inl (k 0, 400, .inl (upd q 8 x_1)))] H := hP
  have hD : va_D A [(t, .inr (7, [.ref tb, .int 8])), (tb, .inl (k 0, 400, .inl (upd q 8 x_1)))] := hD
  refine lv_aload_n hx hb dX7_addFour_33 rfl (lv_at hl 1 rfl) ?_
  refine lv_dup hx hb dX7_addFour_34 rfl ?_
  refine va_get (D := G) (ci := 7) (v := .int 8) (C := RX7) (T := TX7) (N := 2) hx hb hts j_c_X7_addFour_8_7 hown hE.K hP 0 rfl rfl 1 (by decide) (hts (.fieldLink RX7 13 "GossamerGate$Tape" "length" "I") (List.mem_cons_of_mem _ (List.mem_append_left _ (List.mem_of_getElem? (i := 0) rfl)))) (fun _ h9 => h9) rfl dX7_addFour_35 ?_
  refine lv_iconst (v := 1) hx hb dX7_addFour_38 (by decide) ?_
  refine lv_iadd hx hb dX7_addFour_39 ?_
  refine gz_ni (v := 9) (by decide) ?_
  refine va_put (D := G) (ci := 7) (v := .int 9) (ty := .int) (C := RX7) (T := TX7) (N := 2) hx hb hts j_c_X7_addFour_8_7 tyX7 tyX7_ok nmX7 hown hE.K hP hD hS 0 rfl rfl 1 (by decide) (hts (.fieldLink RX7 13 "GossamerGate$Tape" "length" "I") (List.mem_cons_of_mem _ (List.mem_append_left _ (List.mem_of_getElem? (i := 0) rfl)))) (fun _ h9 => h9) rfl (by decide +kernel) rfl rfl (Nat.le_of_ble_eq_true rfl) dX7_addFour_40 (fun H locs hP hD hS => ?_)
  have hP : va_P G vwCl [(t, .inr (7, [.ref tb, .int 9])), (tb, .inl (k 0, 400, .inl (upd q 8 x_1)))] H := hP
  have hD : va_D A [(t, .inr (7, [.ref tb, .int 9])), (tb, .inl (k 0, 400, .inl (upd q 8 x_1)))] := hD
  refine lv_iinc (v := 16) (lv' := [(2, .int 16), (0, .ref t), (1, .int a)]) hx hb dX7_addFour_43 hl (k := 0) rfl (by decide) (by decide) rfl (fun ls hl => ?_)
  refine lv_goto (tgt := 3) hx hb dX7_addFour_46 (by decide) ?_
  refine lv_iload_n hx hb dX7_addFour_3 rfl (lv_at hl 0 rfl) ?_
  refine lv_if_lt (tgt := 49) hx hb dX7_addFour_4 (by decide) (fun h9 => absurd h9 (by decide)) (fun _ => ?_)
  refine lv_aload_n hx hb dX7_addFour_7 rfl (lv_at hl 1 rfl) ?_
  refine va_get (D := G) (ci := 7) (v := .int 9) (C := RX7) (T := TX7) (N := 2) hx hb hts j_c_X7_addFour_8_7 hown hE.K hP 0 rfl rfl 1 (by decide) (hts (.fieldLink RX7 13 "GossamerGate$Tape" "length" "I") (List.mem_cons_of_mem _ (List.mem_append_left _ (List.mem_of_getElem? (i := 0) rfl)))) (fun _ h9 => h9) rfl dX7_addFour_8 ?_
  refine lv_sipush (v := 400) hx hb dX7_addFour_11 (by decide) ?_
  refine lv_icmp_ge (tgt := 49) hx hb dX7_addFour_14 (by decide) (fun h9 => absurd h9 (by decide)) (fun _ => ?_)
  refine lv_aload_n hx hb dX7_addFour_17 rfl (lv_at hl 1 rfl) ?_
  refine va_get (D := G) (ci := 7) (v := .ref tb) (C := RX7) (T := TX7) (N := 2) hx hb hts j_c_X7_addFour_8_7 hown hE.K hP 0 rfl rfl 0 (by decide) (hts (.fieldLink RX7 9 "GossamerGate$Tape" "bytes" "[I") (List.mem_cons_of_mem _ (List.mem_append_left _ (List.mem_of_getElem? (i := 1) rfl)))) (fun _ h9 => h9) rfl dX7_addFour_18 ?_
  refine lv_aload_n hx hb dX7_addFour_21 rfl (lv_at hl 1 rfl) ?_
  refine va_get (D := G) (ci := 7) (v := .int 9) (C := RX7) (T := TX7) (N := 2) hx hb hts j_c_X7_addFour_8_7 hown hE.K hP 0 rfl rfl 1 (by decide) (hts (.fieldLink RX7 13 "GossamerGate$Tape" "length" "I") (List.mem_cons_of_mem _ (List.mem_append_left _ (List.mem_of_getElem? (i := 0) rfl)))) (fun _ h9 => h9) rfl dX7_addFour_22 ?_
  refine lv_iload_n hx hb dX7_addFour_25 rfl (lv_at hl 2 rfl) ?_
  refine lv_iload_n hx hb dX7_addFour_26 rfl (lv_at hl 0 rfl) ?_
  refine lv_ishr hx hb dX7_addFour_27 ?_
  refine lv_sipush (v := 255) hx hb dX7_addFour_28 (by decide) ?_
  refine lv_iand hx hb dX7_addFour_31 ?_
  refine lv_topi (fun x_2 ex_2 => ?_)
  refine va_iast hx hb hE.K hP hD hS 1 0 rfl rfl (gz_in (by decide)) dX7_addFour_32 (fun H locs hP hD hS => ?_)
  have hP : va_P G vwCl [(t, .inr (7, [.ref tb, .int 9])), (tb, .inl (k 0, 400, .inl (upd (upd q 8 x_1) 9 x_2)))] H := hP
  have hD : va_D A [(t, .inr (7, [.ref tb, .int 9])), (tb, .inl (k 0, 400, .inl (upd (upd q 8 x_1) 9 x_2)))] := hD
  refine lv_aload_n hx hb dX7_addFour_33 rfl (lv_at hl 1 rfl) ?_
  refine lv_dup hx hb dX7_addFour_34 rfl ?_
  refine va_get (D := G) (ci := 7) (v := .int 9) (C := RX7) (T := TX7) (N := 2) hx hb hts j_c_X7_addFour_8_7 hown hE.K hP 0 rfl rfl 1 (by decide) (hts (.fieldLink RX7 13 "GossamerGate$Tape" "length" "I") (List.mem_cons_of_mem _ (List.mem_append_left _ (List.mem_of_getElem? (i := 0) rfl)))) (fun _ h9 => h9) rfl dX7_addFour_35 ?_
  refine lv_iconst (v := 1) hx hb dX7_addFour_38 (by decide) ?_
  refine lv_iadd hx hb dX7_addFour_39 ?_
  refine gz_ni (v := 10) (by decide) ?_
  refine va_put (D := G) (ci := 7) (v := .int 10) (ty := .int) (C := RX7) (T := TX7) (N := 2) hx hb hts j_c_X7_addFour_8_7 tyX7 tyX7_ok nmX7 hown hE.K hP hD hS 0 rfl rfl 1 (by decide) (hts (.fieldLink RX7 13 "GossamerGate$Tape" "length" "I") (List.mem_cons_of_mem _ (List.mem_append_left _ (List.mem_of_getElem? (i := 0) rfl)))) (fun _ h9 => h9) rfl (by decide +kernel) rfl rfl (Nat.le_of_ble_eq_true rfl) dX7_addFour_40 (fun H locs hP hD hS => ?_)
  have hP : va_P G vwCl [(t, .inr (7, [.ref tb, .int 10])), (tb, .inl (k 0, 400, .inl (upd (upd q 8 x_1) 9 x_2)))] H := hP
  have hD : va_D A [(t, .inr (7, [.ref tb, .int 10])), (tb, .inl (k 0, 400, .inl (upd (upd q 8 x_1) 9 x_2)))] := hD
  refine lv_iinc (v := 8) (lv' := [(2, .int 8), (0, .ref t), (1, .int a)]) hx hb dX7_addFour_43 hl (k := 0) rfl (by decide) (by decide) rfl (fun ls hl => ?_)
  refine lv_goto (tgt := 3) hx hb dX7_addFour_46 (by decide) ?_
  refine lv_iload_n hx hb dX7_addFour_3 rfl (lv_at hl 0 rfl) ?_
  refine lv_if_lt (tgt := 49) hx hb dX7_addFour_4 (by decide) (fun h9 => absurd h9 (by decide)) (fun _ => ?_)
  refine lv_aload_n hx hb dX7_addFour_7 rfl (lv_at hl 1 rfl) ?_
  refine va_get (D := G) (ci := 7) (v := .int 10) (C := RX7) (T := TX7) (N := 2) hx hb hts j_c_X7_addFour_8_7 hown hE.K hP 0 rfl rfl 1 (by decide) (hts (.fieldLink RX7 13 "GossamerGate$Tape" "length" "I") (List.mem_cons_of_mem _ (List.mem_append_left _ (List.mem_of_getElem? (i := 0) rfl)))) (fun _ h9 => h9) rfl dX7_addFour_8 ?_
  refine lv_sipush (v := 400) hx hb dX7_addFour_11 (by decide) ?_
  refine lv_icmp_ge (tgt := 49) hx hb dX7_addFour_14 (by decide) (fun h9 => absurd h9 (by decide)) (fun _ => ?_)
  refine lv_aload_n hx hb dX7_addFour_17 rfl (lv_at hl 1 rfl) ?_
  refine va_get (D := G) (ci := 7) (v := .ref tb) (C := RX7) (T := TX7) (N := 2) hx hb hts j_c_X7_addFour_8_7 hown hE.K hP 0 rfl rfl 0 (by decide) (hts (.fieldLink RX7 9 "GossamerGate$Tape" "bytes" "[I") (List.mem_cons_of_mem _ (List.mem_append_left _ (List.mem_of_getElem? (i := 1) rfl)))) (fun _ h9 => h9) rfl dX7_addFour_18 ?_
  refine lv_aload_n hx hb dX7_addFour_21 rfl (lv_at hl 1 rfl) ?_
  refine va_get (D := G) (ci := 7) (v := .int 10) (C := RX7) (T := TX7) (N := 2) hx hb hts j_c_X7_addFour_8_7 hown hE.K hP 0 rfl rfl 1 (by decide) (hts (.fieldLink RX7 13 "GossamerGate$Tape" "length" "I") (List.mem_cons_of_mem _ (List.mem_append_left _ (List.mem_of_getElem? (i := 0) rfl)))) (fun _ h9 => h9) rfl dX7_addFour_22 ?_
  refine lv_iload_n hx hb dX7_addFour_25 rfl (lv_at hl 2 rfl) ?_
  refine lv_iload_n hx hb dX7_addFour_26 rfl (lv_at hl 0 rfl) ?_
  refine lv_ishr hx hb dX7_addFour_27 ?_
  refine lv_sipush (v := 255) hx hb dX7_addFour_28 (by decide) ?_
  refine lv_iand hx hb dX7_addFour_31 ?_
  refine lv_topi (fun x_3 ex_3 => ?_)
  refine va_iast hx hb hE.K hP hD hS 1 0 rfl rfl (gz_in (by decide)) dX7_addFour_32 (fun H locs hP hD hS => ?_)
  have hP : va_P G vwCl [(t, .inr (7, [.ref tb, .int 10])), (tb, .inl (k 0, 400, .inl (upd (upd (upd q 8 x_1) 9 x_2) 10 x_3)))] H := hP
  have hD : va_D A [(t, .inr (7, [.ref tb, .int 10])), (tb, .inl (k 0, 400, .inl (upd (upd (upd q 8 x_1) 9 x_2) 10 x_3)))] := hD
  refine lv_aload_n hx hb dX7_addFour_33 rfl (lv_at hl 1 rfl) ?_
  refine lv_dup hx hb dX7_addFour_34 rfl ?_
  refine va_get (D := G) (ci := 7) (v := .int 10) (C := RX7) (T := TX7) (N := 2) hx hb hts j_c_X7_addFour_8_7 hown hE.K hP 0 rfl rfl 1 (by decide) (hts (.fieldLink RX7 13 "GossamerGate$Tape" "length" "I") (List.mem_cons_of_mem _ (List.mem_append_left _ (List.mem_of_getElem? (i := 0) rfl)))) (fun _ h9 => h9) rfl dX7_addFour_35 ?_
  refine lv_iconst (v := 1) hx hb dX7_addFour_38 (by decide) ?_
  refine lv_iadd hx hb dX7_addFour_39 ?_
  refine gz_ni (v := 11) (by decide) ?_
  refine va_put (D := G) (ci := 7) (v := .int 11) (ty := .int) (C := RX7) (T := TX7) (N := 2) hx hb hts j_c_X7_addFour_8_7 tyX7 tyX7_ok nmX7 hown hE.K hP hD hS 0 rfl rfl 1 (by decide) (hts (.fieldLink RX7 13 "GossamerGate$Tape" "length" "I") (List.mem_cons_of_mem _ (List.mem_append_left _ (List.mem_of_getElem? (i := 0) rfl)))) (fun _ h9 => h9) rfl (by decide +kernel) rfl rfl (Nat.le_of_ble_eq_true rfl) dX7_addFour_40 (fun H locs hP hD hS => ?_)
  have hP : va_P G vwCl [(t, .inr (7, [.ref tb, .int 11])), (tb, .inl (k 0, 400, .inl (upd (upd (upd q 8 x_1) 9 x_2) 10 x_3)))] H := hP
  have hD : va_D A [(t, .inr (7, [.ref tb, .int 11])), (tb, .inl (k 0, 400, .inl (upd (upd (upd q 8 x_1) 9 x_2) 10 x_3)))] := hD
  refine lv_iinc (v := 0) (lv' := [(2, .int 0), (0, .ref t), (1, .int a)]) hx hb dX7_addFour_43 hl (k := 0) rfl (by decide) (by decide) rfl (fun ls hl => ?_)
  refine lv_goto (tgt := 3) hx hb dX7_addFour_46 (by decide) ?_
  refine lv_iload_n hx hb dX7_addFour_3 rfl (lv_at hl 0 rfl) ?_
  refine lv_if_lt (tgt := 49) hx hb dX7_addFour_4 (by decide) (fun h9 => absurd h9 (by decide)) (fun _ => ?_)
  refine lv_aload_n hx hb dX7_addFour_7 rfl (lv_at hl 1 rfl) ?_
  refine va_get (D := G) (ci := 7) (v := .int 11) (C := RX7) (T := TX7) (N := 2) hx hb hts j_c_X7_addFour_8_7 hown hE.K hP 0 rfl rfl 1 (by decide) (hts (.fieldLink RX7 13 "GossamerGate$Tape" "length" "I") (List.mem_cons_of_mem _ (List.mem_append_left _ (List.mem_of_getElem? (i := 0) rfl)))) (fun _ h9 => h9) rfl dX7_addFour_8 ?_
  refine lv_sipush (v := 400) hx hb dX7_addFour_11 (by decide) ?_
  refine lv_icmp_ge (tgt := 49) hx hb dX7_addFour_14 (by decide) (fun h9 => absurd h9 (by decide)) (fun _ => ?_)
  refine lv_aload_n hx hb dX7_addFour_17 rfl (lv_at hl 1 rfl) ?_
  refine va_get (D := G) (ci := 7) (v := .ref tb) (C := RX7) (T := TX7) (N := 2) hx hb hts j_c_X7_addFour_8_7 hown hE.K hP 0 rfl rfl 0 (by decide) (hts (.fieldLink RX7 9 "GossamerGate$Tape" "bytes" "[I") (List.mem_cons_of_mem _ (List.mem_append_left _ (List.mem_of_getElem? (i := 1) rfl)))) (fun _ h9 => h9) rfl dX7_addFour_18 ?_
  refine lv_aload_n hx hb dX7_addFour_21 rfl (lv_at hl 1 rfl) ?_
  refine va_get (D := G) (ci := 7) (v := .int 11) (C := RX7) (T := TX7) (N := 2) hx hb hts j_c_X7_addFour_8_7 hown hE.K hP 0 rfl rfl 1 (by decide) (hts (.fieldLink RX7 13 "GossamerGate$Tape" "length" "I") (List.mem_cons_of_mem _ (List.mem_append_left _ (List.mem_of_getElem? (i := 0) rfl)))) (fun _ h9 => h9) rfl dX7_addFour_22 ?_
  refine lv_iload_n hx hb dX7_addFour_25 rfl (lv_at hl 2 rfl) ?_
  refine lv_iload_n hx hb dX7_addFour_26 rfl (lv_at hl 0 rfl) ?_
  refine lv_ishr hx hb dX7_addFour_27 ?_
  refine lv_sipush (v := 255) hx hb dX7_addFour_28 (by decide) ?_
  refine lv_iand hx hb dX7_addFour_31 ?_
  refine lv_topi (fun x_4 ex_4 => ?_)
  refine va_iast hx hb hE.K hP hD hS 1 0 rfl rfl (gz_in (by decide)) dX7_addFour_32 (fun H locs hP hD hS => ?_)
  have hP : va_P G vwCl [(t, .inr (7, [.ref tb, .int 11])), (tb, .inl (k 0, 400, .inl (upd (upd (upd (upd q 8 x_1) 9 x_2) 10 x_3) 11 x_4)))] H := hP
  have hD : va_D A [(t, .inr (7, [.ref tb, .int 11])), (tb, .inl (k 0, 400, .inl (upd (upd (upd (upd q 8 x_1) 9 x_2) 10 x_3) 11 x_4)))] := hD
  refine lv_aload_n hx hb dX7_addFour_33 rfl (lv_at hl 1 rfl) ?_
  refine lv_dup hx hb dX7_addFour_34 rfl ?_
  refine va_get (D := G) (ci := 7) (v := .int 11) (C := RX7) (T := TX7) (N := 2) hx hb hts j_c_X7_addFour_8_7 hown hE.K hP 0 rfl rfl 1 (by decide) (hts (.fieldLink RX7 13 "GossamerGate$Tape" "length" "I") (List.mem_cons_of_mem _ (List.mem_append_left _ (List.mem_of_getElem? (i := 0) rfl)))) (fun _ h9 => h9) rfl dX7_addFour_35 ?_
  refine lv_iconst (v := 1) hx hb dX7_addFour_38 (by decide) ?_
  refine lv_iadd hx hb dX7_addFour_39 ?_
  refine gz_ni (v := 12) (by decide) ?_
  refine va_put (D := G) (ci := 7) (v := .int 12) (ty := .int) (C := RX7) (T := TX7) (N := 2) hx hb hts j_c_X7_addFour_8_7 tyX7 tyX7_ok nmX7 hown hE.K hP hD hS 0 rfl rfl 1 (by decide) (hts (.fieldLink RX7 13 "GossamerGate$Tape" "length" "I") (List.mem_cons_of_mem _ (List.mem_append_left _ (List.mem_of_getElem? (i := 0) rfl)))) (fun _ h9 => h9) rfl (by decide +kernel) rfl rfl (Nat.le_of_ble_eq_true rfl) dX7_addFour_40 (fun H locs hP hD hS => ?_)
  have hP : va_P G vwCl [(t, .inr (7, [.ref tb, .int 12])), (tb, .inl (k 0, 400, .inl (upd (upd (upd (upd q 8 x_1) 9 x_2) 10 x_3) 11 x_4)))] H := hP
  have hD : va_D A [(t, .inr (7, [.ref tb, .int 12])), (tb, .inl (k 0, 400, .inl (upd (upd (upd (upd q 8 x_1) 9 x_2) 10 x_3) 11 x_4)))] := hD
  refine lv_iinc (v := (-8)) (lv' := [(2, .int (-8)), (0, .ref t), (1, .int a)]) hx hb dX7_addFour_43 hl (k := 0) rfl (by decide) (by decide) rfl (fun ls hl => ?_)
  refine lv_goto (tgt := 3) hx hb dX7_addFour_46 (by decide) ?_
  refine lv_iload_n hx hb dX7_addFour_3 rfl (lv_at hl 0 rfl) ?_
  refine lv_if_lt (tgt := 49) hx hb dX7_addFour_4 (by decide) (fun _ => ?_) (fun h9 => absurd h9 (by decide))
  have hP9 := hP.sub (ws' := [(t, .inr (7, [.ref tb, .int 12])), (tb, .inl (k 0, 400, .inl (upd (upd (upd (upd q 8 x_1) 9 x_2) 10 x_3) 11 x_4)))]) [0, 1] rfl
  have hD9 := hD.sub (ws' := [(t, .inr (7, [.ref tb, .int 12])), (tb, .inl (k 0, 400, .inl (upd (upd (upd (upd q 8 x_1) 9 x_2) 10 x_3) 11 x_4)))]) [0, 1] (by decide) rfl
  exact W.vret hx hb hr (fun t ht hW => ⟨⟨upd (upd (upd (upd q 8 x_1) 9 x_2) 10 x_3) 11 x_4, rfl, trivial, by rw [ht]; exact hP9, hD9⟩, hS.F ht⟩) hS.2.2 dX7_addFour_49
set_option maxHeartbeats 4000000 in
set_option maxRecDepth 100000 in
theorem c_X7_addFour_12 (l : Launch) (G : va_G) (k : Nat → ClassId) (sa : Nat → Nat) (sz : Nat) (t : Nat) (tb : Nat) (a : Int32) (q : Nat → Int32) : Met l yX7_addFour vs_c_X7_addFour_12 ({ frames := 0, cells := 0, slots := 0, locals := 0 } : Room) (gP G k sa [.ref t, .int a] [(t, .inr (7, [.ref tb, .int 12])), (tb, .inl (k 0, 400, .inl q))] sz) (va_Qv (fun _ : Nat → Int32 => True) (gO G (va_A ([(t, .inr (7, [.ref tb, .int 12])), (tb, .inl (k 0, 400, .inl q))]) sz) (fun u => [(t, .inr (7, [.ref tb, .int 16])), (tb, .inl (k 0, 400, .inl u))])) (va_A ([(t, .inr (7, [.ref tb, .int 12])), (tb, .inl (k 0, 400, .inl q))]) sz)) 0 0 (va_A ([(t, .inr (7, [.ref tb, .int 12])), (tb, .inl (k 0, 400, .inl q))]) sz) := by
  refine gz_met (cc := cX7_addFour) (maxL := 3) (ret := none) (by decide) rfl (Nat.le_of_ble_eq_true rfl) ?_
  intro p_ e_ s_ m below_ meth_ c_ ls hx hb hr hml hts hown hlocks hin hP hE hD hA hS
  generalize hAe : va_A ([(t, .inr (7, [.ref tb, .int 12])), (tb, .inl (k 0, 400, .inl q))]) sz = A at hD hA hS ⊢
  intro hl
  have hl : lv_has ls 3 [(0, .ref t), (1, .int a)] := hl
  refine lv_bipush (v := 24) hx hb dX7_addFour_0 (by decide) ?_
  refine lv_istore_n (lv' := [(2, .int 24), (0, .ref t), (1, .int a)]) hx hb dX7_addFour_2 rfl hl (by decide) rfl (fun ls hl => ?_)
  refine lv_iload_n hx hb dX7_addFour_3 rfl (lv_at hl 0 rfl) ?_
  refine lv_if_lt (tgt := 49) hx hb dX7_addFour_4 (by decide) (fun h9 => absurd h9 (by decide)) (fun _ => ?_)
  refine lv_aload_n hx hb dX7_addFour_7 rfl (lv_at hl 1 rfl) ?_
  refine va_get (D := G) (ci := 7) (v := .int 12) (C := RX7) (T := TX7) (N := 2) hx hb hts j_c_X7_addFour_12_7 hown hE.K hP 0 rfl rfl 1 (by decide) (hts (.fieldLink RX7 13 "GossamerGate$Tape" "length" "I") (List.mem_cons_of_mem _ (List.mem_append_left _ (List.mem_of_getElem? (i := 0) rfl)))) (fun _ h9 => h9) rfl dX7_addFour_8 ?_
  refine lv_sipush (v := 400) hx hb dX7_addFour_11 (by decide) ?_
  refine lv_icmp_ge (tgt := 49) hx hb dX7_addFour_14 (by decide) (fun h9 => absurd h9 (by decide)) (fun _ => ?_)
  refine lv_aload_n hx hb dX7_addFour_17 rfl (lv_at hl 1 rfl) ?_
  refine va_get (D := G) (ci := 7) (v := .ref tb) (C := RX7) (T := TX7) (N := 2) hx hb hts j_c_X7_addFour_12_7 hown hE.K hP 0 rfl rfl 0 (by decide) (hts (.fieldLink RX7 9 "GossamerGate$Tape" "bytes" "[I") (List.mem_cons_of_mem _ (List.mem_append_left _ (List.mem_of_getElem? (i := 1) rfl)))) (fun _ h9 => h9) rfl dX7_addFour_18 ?_
  refine lv_aload_n hx hb dX7_addFour_21 rfl (lv_at hl 1 rfl) ?_
  refine va_get (D := G) (ci := 7) (v := .int 12) (C := RX7) (T := TX7) (N := 2) hx hb hts j_c_X7_addFour_12_7 hown hE.K hP 0 rfl rfl 1 (by decide) (hts (.fieldLink RX7 13 "GossamerGate$Tape" "length" "I") (List.mem_cons_of_mem _ (List.mem_append_left _ (List.mem_of_getElem? (i := 0) rfl)))) (fun _ h9 => h9) rfl dX7_addFour_22 ?_
  refine lv_iload_n hx hb dX7_addFour_25 rfl (lv_at hl 2 rfl) ?_
  refine lv_iload_n hx hb dX7_addFour_26 rfl (lv_at hl 0 rfl) ?_
  refine lv_ishr hx hb dX7_addFour_27 ?_
  refine lv_sipush (v := 255) hx hb dX7_addFour_28 (by decide) ?_
  refine lv_iand hx hb dX7_addFour_31 ?_
  refine lv_topi (fun x_1 ex_1 => ?_)
  refine va_iast hx hb hE.K hP hD hS 1 0 rfl rfl (gz_in (by decide)) dX7_addFour_32 (fun H locs hP hD hS => ?_)
  have hP : va_P G vwCl [(t, .inr (7, [.ref tb, .int 12])), (tb, .inl (k 0, 400, .inl (upd q 12 x_1)))] H := hP
  have hD : va_D A [(t, .inr (7, [.ref tb, .int 12])), (tb, .inl (k 0, 400, .inl (upd q 12 x_1)))] := hD
  refine lv_aload_n hx hb dX7_addFour_33 rfl (lv_at hl 1 rfl) ?_
  refine lv_dup hx hb dX7_addFour_34 rfl ?_
  refine va_get (D := G) (ci := 7) (v := .int 12) (C := RX7) (T := TX7) (N := 2) hx hb hts j_c_X7_addFour_12_7 hown hE.K hP 0 rfl rfl 1 (by decide) (hts (.fieldLink RX7 13 "GossamerGate$Tape" "length" "I") (List.mem_cons_of_mem _ (List.mem_append_left _ (List.mem_of_getElem? (i := 0) rfl)))) (fun _ h9 => h9) rfl dX7_addFour_35 ?_
  refine lv_iconst (v := 1) hx hb dX7_addFour_38 (by decide) ?_
  refine lv_iadd hx hb dX7_addFour_39 ?_
  refine gz_ni (v := 13) (by decide) ?_
  refine va_put (D := G) (ci := 7) (v := .int 13) (ty := .int) (C := RX7) (T := TX7) (N := 2) hx hb hts j_c_X7_addFour_12_7 tyX7 tyX7_ok nmX7 hown hE.K hP hD hS 0 rfl rfl 1 (by decide) (hts (.fieldLink RX7 13 "GossamerGate$Tape" "length" "I") (List.mem_cons_of_mem _ (List.mem_append_left _ (List.mem_of_getElem? (i := 0) rfl)))) (fun _ h9 => h9) rfl (by decide +kernel) rfl rfl (Nat.le_of_ble_eq_true rfl) dX7_addFour_40 (fun H locs hP hD hS => ?_)
  have hP : va_P G vwCl [(t, .inr (7, [.ref tb, .int 13])), (tb, .inl (k 0, 400, .inl (upd q 12 x_1)))] H := hP
  have hD : va_D A [(t, .inr (7, [.ref tb, .int 13])), (tb, .inl (k 0, 400, .inl (upd q 12 x_1)))] := hD
  refine lv_iinc (v := 16) (lv' := [(2, .int 16), (0, .ref t), (1, .int a)]) hx hb dX7_addFour_43 hl (k := 0) rfl (by decide) (by decide) rfl (fun ls hl => ?_)
  refine lv_goto (tgt := 3) hx hb dX7_addFour_46 (by decide) ?_
  refine lv_iload_n hx hb dX7_addFour_3 rfl (lv_at hl 0 rfl) ?_
  refine lv_if_lt (tgt := 49) hx hb dX7_addFour_4 (by decide) (fun h9 => absurd h9 (by decide)) (fun _ => ?_)
  refine lv_aload_n hx hb dX7_addFour_7 rfl (lv_at hl 1 rfl) ?_
  refine va_get (D := G) (ci := 7) (v := .int 13) (C := RX7) (T := TX7) (N := 2) hx hb hts j_c_X7_addFour_12_7 hown hE.K hP 0 rfl rfl 1 (by decide) (hts (.fieldLink RX7 13 "GossamerGate$Tape" "length" "I") (List.mem_cons_of_mem _ (List.mem_append_left _ (List.mem_of_getElem? (i := 0) rfl)))) (fun _ h9 => h9) rfl dX7_addFour_8 ?_
  refine lv_sipush (v := 400) hx hb dX7_addFour_11 (by decide) ?_
  refine lv_icmp_ge (tgt := 49) hx hb dX7_addFour_14 (by decide) (fun h9 => absurd h9 (by decide)) (fun _ => ?_)
  refine lv_aload_n hx hb dX7_addFour_17 rfl (lv_at hl 1 rfl) ?_
  refine va_get (D := G) (ci := 7) (v := .ref tb) (C := RX7) (T := TX7) (N := 2) hx hb hts j_c_X7_addFour_12_7 hown hE.K hP 0 rfl rfl 0 (by decide) (hts (.fieldLink RX7 9 "GossamerGate$Tape" "bytes" "[I") (List.mem_cons_of_mem _ (List.mem_append_left _ (List.mem_of_getElem? (i := 1) rfl)))) (fun _ h9 => h9) rfl dX7_addFour_18 ?_
  refine lv_aload_n hx hb dX7_addFour_21 rfl (lv_at hl 1 rfl) ?_
  refine va_get (D := G) (ci := 7) (v := .int 13) (C := RX7) (T := TX7) (N := 2) hx hb hts j_c_X7_addFour_12_7 hown hE.K hP 0 rfl rfl 1 (by decide) (hts (.fieldLink RX7 13 "GossamerGate$Tape" "length" "I") (List.mem_cons_of_mem _ (List.mem_append_left _ (List.mem_of_getElem? (i := 0) rfl)))) (fun _ h9 => h9) rfl dX7_addFour_22 ?_
  refine lv_iload_n hx hb dX7_addFour_25 rfl (lv_at hl 2 rfl) ?_
  refine lv_iload_n hx hb dX7_addFour_26 rfl (lv_at hl 0 rfl) ?_
  refine lv_ishr hx hb dX7_addFour_27 ?_
  refine lv_sipush (v := 255) hx hb dX7_addFour_28 (by decide) ?_
  refine lv_iand hx hb dX7_addFour_31 ?_
  refine lv_topi (fun x_2 ex_2 => ?_)
  refine va_iast hx hb hE.K hP hD hS 1 0 rfl rfl (gz_in (by decide)) dX7_addFour_32 (fun H locs hP hD hS => ?_)
  have hP : va_P G vwCl [(t, .inr (7, [.ref tb, .int 13])), (tb, .inl (k 0, 400, .inl (upd (upd q 12 x_1) 13 x_2)))] H := hP
  have hD : va_D A [(t, .inr (7, [.ref tb, .int 13])), (tb, .inl (k 0, 400, .inl (upd (upd q 12 x_1) 13 x_2)))] := hD
  refine lv_aload_n hx hb dX7_addFour_33 rfl (lv_at hl 1 rfl) ?_
  refine lv_dup hx hb dX7_addFour_34 rfl ?_
  refine va_get (D := G) (ci := 7) (v := .int 13) (C := RX7) (T := TX7) (N := 2) hx hb hts j_c_X7_addFour_12_7 hown hE.K hP 0 rfl rfl 1 (by decide) (hts (.fieldLink RX7 13 "GossamerGate$Tape" "length" "I") (List.mem_cons_of_mem _ (List.mem_append_left _ (List.mem_of_getElem? (i := 0) rfl)))) (fun _ h9 => h9) rfl dX7_addFour_35 ?_
  refine lv_iconst (v := 1) hx hb dX7_addFour_38 (by decide) ?_
  refine lv_iadd hx hb dX7_addFour_39 ?_
  refine gz_ni (v := 14) (by decide) ?_
  refine va_put (D := G) (ci := 7) (v := .int 14) (ty := .int) (C := RX7) (T := TX7) (N := 2) hx hb hts j_c_X7_addFour_12_7 tyX7 tyX7_ok nmX7 hown hE.K hP hD hS 0 rfl rfl 1 (by decide) (hts (.fieldLink RX7 13 "GossamerGate$Tape" "length" "I") (List.mem_cons_of_mem _ (List.mem_append_left _ (List.mem_of_getElem? (i := 0) rfl)))) (fun _ h9 => h9) rfl (by decide +kernel) rfl rfl (Nat.le_of_ble_eq_true rfl) dX7_addFour_40 (fun H locs hP hD hS => ?_)
  have hP : va_P G vwCl [(t, .inr (7, [.ref tb, .int 14])), (tb, .inl (k 0, 400, .inl (upd (upd q 12 x_1) 13 x_2)))] H := hP
  have hD : va_D A [(t, .inr (7, [.ref tb, .int 14])), (tb, .inl (k 0, 400, .inl (upd (upd q 12 x_1) 13 x_2)))] := hD
  refine lv_iinc (v := 8) (lv' := [(2, .int 8), (0, .ref t), (1, .int a)]) hx hb dX7_addFour_43 hl (k := 0) rfl (by decide) (by decide) rfl (fun ls hl => ?_)
  refine lv_goto (tgt := 3) hx hb dX7_addFour_46 (by decide) ?_
  refine lv_iload_n hx hb dX7_addFour_3 rfl (lv_at hl 0 rfl) ?_
  refine lv_if_lt (tgt := 49) hx hb dX7_addFour_4 (by decide) (fun h9 => absurd h9 (by decide)) (fun _ => ?_)
  refine lv_aload_n hx hb dX7_addFour_7 rfl (lv_at hl 1 rfl) ?_
  refine va_get (D := G) (ci := 7) (v := .int 14) (C := RX7) (T := TX7) (N := 2) hx hb hts j_c_X7_addFour_12_7 hown hE.K hP 0 rfl rfl 1 (by decide) (hts (.fieldLink RX7 13 "GossamerGate$Tape" "length" "I") (List.mem_cons_of_mem _ (List.mem_append_left _ (List.mem_of_getElem? (i := 0) rfl)))) (fun _ h9 => h9) rfl dX7_addFour_8 ?_
  refine lv_sipush (v := 400) hx hb dX7_addFour_11 (by decide) ?_
  refine lv_icmp_ge (tgt := 49) hx hb dX7_addFour_14 (by decide) (fun h9 => absurd h9 (by decide)) (fun _ => ?_)
  refine lv_aload_n hx hb dX7_addFour_17 rfl (lv_at hl 1 rfl) ?_
  refine va_get (D := G) (ci := 7) (v := .ref tb) (C := RX7) (T := TX7) (N := 2) hx hb hts j_c_X7_addFour_12_7 hown hE.K hP 0 rfl rfl 0 (by decide) (hts (.fieldLink RX7 9 "GossamerGate$Tape" "bytes" "[I") (List.mem_cons_of_mem _ (List.mem_append_left _ (List.mem_of_getElem? (i := 1) rfl)))) (fun _ h9 => h9) rfl dX7_addFour_18 ?_
  refine lv_aload_n hx hb dX7_addFour_21 rfl (lv_at hl 1 rfl) ?_
  refine va_get (D := G) (ci := 7) (v := .int 14) (C := RX7) (T := TX7) (N := 2) hx hb hts j_c_X7_addFour_12_7 hown hE.K hP 0 rfl rfl 1 (by decide) (hts (.fieldLink RX7 13 "GossamerGate$Tape" "length" "I") (List.mem_cons_of_mem _ (List.mem_append_left _ (List.mem_of_getElem? (i := 0) rfl)))) (fun _ h9 => h9) rfl dX7_addFour_22 ?_
  refine lv_iload_n hx hb dX7_addFour_25 rfl (lv_at hl 2 rfl) ?_
  refine lv_iload_n hx hb dX7_addFour_26 rfl (lv_at hl 0 rfl) ?_
  refine lv_ishr hx hb dX7_addFour_27 ?_
  refine lv_sipush (v := 255) hx hb dX7_addFour_28 (by decide) ?_
  refine lv_iand hx hb dX7_addFour_31 ?_
  refine lv_topi (fun x_3 ex_3 => ?_)
  refine va_iast hx hb hE.K hP hD hS 1 0 rfl rfl (gz_in (by decide)) dX7_addFour_32 (fun H locs hP hD hS => ?_)
  have hP : va_P G vwCl [(t, .inr (7, [.ref tb, .int 14])), (tb, .inl (k 0, 400, .inl (upd (upd (upd q 12 x_1) 13 x_2) 14 x_3)))] H := hP
  have hD : va_D A [(t, .inr (7, [.ref tb, .int 14])), (tb, .inl (k 0, 400, .inl (upd (upd (upd q 12 x_1) 13 x_2) 14 x_3)))] := hD
  refine lv_aload_n hx hb dX7_addFour_33 rfl (lv_at hl 1 rfl) ?_
  refine lv_dup hx hb dX7_addFour_34 rfl ?_
  refine va_get (D := G) (ci := 7) (v := .int 14) (C := RX7) (T := TX7) (N := 2) hx hb hts j_c_X7_addFour_12_7 hown hE.K hP 0 rfl rfl 1 (by decide) (hts (.fieldLink RX7 13 "GossamerGate$Tape" "length" "I") (List.mem_cons_of_mem _ (List.mem_append_left _ (List.mem_of_getElem? (i := 0) rfl)))) (fun _ h9 => h9) rfl dX7_addFour_35 ?_
  refine lv_iconst (v := 1) hx hb dX7_addFour_38 (by decide) ?_
  refine lv_iadd hx hb dX7_addFour_39 ?_
  refine gz_ni (v := 15) (by decide) ?_
  refine va_put (D := G) (ci := 7) (v := .int 15) (ty := .int) (C := RX7) (T := TX7) (N := 2) hx hb hts j_c_X7_addFour_12_7 tyX7 tyX7_ok nmX7 hown hE.K hP hD hS 0 rfl rfl 1 (by decide) (hts (.fieldLink RX7 13 "GossamerGate$Tape" "length" "I") (List.mem_cons_of_mem _ (List.mem_append_left _ (List.mem_of_getElem? (i := 0) rfl)))) (fun _ h9 => h9) rfl (by decide +kernel) rfl rfl (Nat.le_of_ble_eq_true rfl) dX7_addFour_40 (fun H locs hP hD hS => ?_)
  have hP : va_P G vwCl [(t, .inr (7, [.ref tb, .int 15])), (tb, .inl (k 0, 400, .inl (upd (upd (upd q 12 x_1) 13 x_2) 14 x_3)))] H := hP
  have hD : va_D A [(t, .inr (7, [.ref tb, .int 15])), (tb, .inl (k 0, 400, .inl (upd (upd (upd q 12 x_1) 13 x_2) 14 x_3)))] := hD
  refine lv_iinc (v := 0) (lv' := [(2, .int 0), (0, .ref t), (1, .int a)]) hx hb dX7_addFour_43 hl (k := 0) rfl (by decide) (by decide) rfl (fun ls hl => ?_)
  refine lv_goto (tgt := 3) hx hb dX7_addFour_46 (by decide) ?_
  refine lv_iload_n hx hb dX7_addFour_3 rfl (lv_at hl 0 rfl) ?_
  refine lv_if_lt (tgt := 49) hx hb dX7_addFour_4 (by decide) (fun h9 => absurd h9 (by decide)) (fun _ => ?_)
  refine lv_aload_n hx hb dX7_addFour_7 rfl (lv_at hl 1 rfl) ?_
  refine va_get (D := G) (ci := 7) (v := .int 15) (C := RX7) (T := TX7) (N := 2) hx hb hts j_c_X7_addFour_12_7 hown hE.K hP 0 rfl rfl 1 (by decide) (hts (.fieldLink RX7 13 "GossamerGate$Tape" "length" "I") (List.mem_cons_of_mem _ (List.mem_append_left _ (List.mem_of_getElem? (i := 0) rfl)))) (fun _ h9 => h9) rfl dX7_addFour_8 ?_
  refine lv_sipush (v := 400) hx hb dX7_addFour_11 (by decide) ?_
  refine lv_icmp_ge (tgt := 49) hx hb dX7_addFour_14 (by decide) (fun h9 => absurd h9 (by decide)) (fun _ => ?_)
  refine lv_aload_n hx hb dX7_addFour_17 rfl (lv_at hl 1 rfl) ?_
  refine va_get (D := G) (ci := 7) (v := .ref tb) (C := RX7) (T := TX7) (N := 2) hx hb hts j_c_X7_addFour_12_7 hown hE.K hP 0 rfl rfl 0 (by decide) (hts (.fieldLink RX7 9 "GossamerGate$Tape" "bytes" "[I") (List.mem_cons_of_mem _ (List.mem_append_left _ (List.mem_of_getElem? (i := 1) rfl)))) (fun _ h9 => h9) rfl dX7_addFour_18 ?_
  refine lv_aload_n hx hb dX7_addFour_21 rfl (lv_at hl 1 rfl) ?_
  refine va_get (D := G) (ci := 7) (v := .int 15) (C := RX7) (T := TX7) (N := 2) hx hb hts j_c_X7_addFour_12_7 hown hE.K hP 0 rfl rfl 1 (by decide) (hts (.fieldLink RX7 13 "GossamerGate$Tape" "length" "I") (List.mem_cons_of_mem _ (List.mem_append_left _ (List.mem_of_getElem? (i := 0) rfl)))) (fun _ h9 => h9) rfl dX7_addFour_22 ?_
  refine lv_iload_n hx hb dX7_addFour_25 rfl (lv_at hl 2 rfl) ?_
  refine lv_iload_n hx hb dX7_addFour_26 rfl (lv_at hl 0 rfl) ?_
  refine lv_ishr hx hb dX7_addFour_27 ?_
  refine lv_sipush (v := 255) hx hb dX7_addFour_28 (by decide) ?_
  refine lv_iand hx hb dX7_addFour_31 ?_
  refine lv_topi (fun x_4 ex_4 => ?_)
  refine va_iast hx hb hE.K hP hD hS 1 0 rfl rfl (gz_in (by decide)) dX7_addFour_32 (fun H locs hP hD hS => ?_)
  have hP : va_P G vwCl [(t, .inr (7, [.ref tb, .int 15])), (tb, .inl (k 0, 400, .inl (upd (upd (upd (upd q 12 x_1) 13 x_2) 14 x_3) 15 x_4)))] H := hP
  have hD : va_D A [(t, .inr (7, [.ref tb, .int 15])), (tb, .inl (k 0, 400, .inl (upd (upd (upd (upd q 12 x_1) 13 x_2) 14 x_3) 15 x_4)))] := hD
  refine lv_aload_n hx hb dX7_addFour_33 rfl (lv_at hl 1 rfl) ?_
  refine lv_dup hx hb dX7_addFour_34 rfl ?_
  refine va_get (D := G) (ci := 7) (v := .int 15) (C := RX7) (T := TX7) (N := 2) hx hb hts j_c_X7_addFour_12_7 hown hE.K hP 0 rfl rfl 1 (by decide) (hts (.fieldLink RX7 13 "GossamerGate$Tape" "length" "I") (List.mem_cons_of_mem _ (List.mem_append_left _ (List.mem_of_getElem? (i := 0) rfl)))) (fun _ h9 => h9) rfl dX7_addFour_35 ?_
  refine lv_iconst (v := 1) hx hb dX7_addFour_38 (by decide) ?_
  refine lv_iadd hx hb dX7_addFour_39 ?_
  refine gz_ni (v := 16) (by decide) ?_
  refine va_put (D := G) (ci := 7) (v := .int 16) (ty := .int) (C := RX7) (T := TX7) (N := 2) hx hb hts j_c_X7_addFour_12_7 tyX7 tyX7_ok nmX7 hown hE.K hP hD hS 0 rfl rfl 1 (by decide) (hts (.fieldLink RX7 13 "GossamerGate$Tape" "length" "I") (List.mem_cons_of_mem _ (List.mem_append_left _ (List.mem_of_getElem? (i := 0) rfl)))) (fun _ h9 => h9) rfl (by decide +kernel) rfl rfl (Nat.le_of_ble_eq_true rfl) dX7_addFour_40 (fun H locs hP hD hS => ?_)
  have hP : va_P G vwCl [(t, .inr (7, [.ref tb, .int 16])), (tb, .inl (k 0, 400, .inl (upd (upd (upd (upd q 12 x_1) 13 x_2) 14 x_3) 15 x_4)))] H := hP
  have hD : va_D A [(t, .inr (7, [.ref tb, .int 16])), (tb, .inl (k 0, 400, .inl (upd (upd (upd (upd q 12 x_1) 13 x_2) 14 x_3) 15 x_4)))] := hD
  refine lv_iinc (v := (-8)) (lv' := [(2, .int (-8)), (0, .ref t), (1, .int a)]) hx hb dX7_addFour_43 hl (k := 0) rfl (by decide) (by decide) rfl (fun ls hl => ?_)
  refine lv_goto (tgt := 3) hx hb dX7_addFour_46 (by decide) ?_
  refine lv_iload_n hx hb dX7_addFour_3 rfl (lv_at hl 0 rfl) ?_
  refine lv_if_lt (tgt := 49) hx hb dX7_addFour_4 (by decide) (fun _ => ?_) (fun h9 => absurd h9 (by decide))
  have hP9 := hP.sub (ws' := [(t, .inr (7, [.ref tb, .int 16])), (tb, .inl (k 0, 400, .inl (upd (upd (upd (upd q 12 x_1) 13 x_2) 14 x_3) 15 x_4)))]) [0, 1] rfl
  have hD9 := hD.sub (ws' := [(t, .inr (7, [.ref tb, .int 16])), (tb, .inl (k 0, 400, .inl (upd (upd (upd (upd q 12 x_1) 13 x_2) 14 x_3) 15 x_4)))]) [0, 1] (by decide) rfl
  exact W.vret hx hb hr (fun t ht hW => ⟨⟨upd (upd (upd (upd q 12 x_1) 13 x_2) 14 x_3) 15 x_4, rfl, trivial, by rw [ht]; exact hP9, hD9⟩, hS.F ht⟩) hS.2.2 dX7_addFour_49
set_option maxHeartbeats 4000000 in
set_option maxRecDepth 100000 in
theorem c_X7_addFour_16 (l : Launch) (G : va_G) (k : Nat → ClassId) (sa : Nat → Nat) (sz : Nat) (t : Nat) (tb : Nat) (a : Int32) (q : Nat → Int32) : Met l yX7_addFour vs_c_X7_addFour_16 ({ frames := 0, cells := 0, slots := 0, locals := 0 } : Room) (gP G k sa [.ref t, .int a] [(t, .inr (7, [.ref tb, .int 16])), (tb, .inl (k 0, 400, .inl q))] sz) (va_Qv (fun _ : Nat → Int32 => True) (gO G (va_A ([(t, .inr (7, [.ref tb, .int 16])), (tb, .inl (k 0, 400, .inl q))]) sz) (fun u => [(t, .inr (7, [.ref tb, .int 20])), (tb, .inl (k 0, 400, .inl u))])) (va_A ([(t, .inr (7, [.ref tb, .int 16])), (tb, .inl (k 0, 400, .inl q))]) sz)) 0 0 (va_A ([(t, .inr (7, [.ref tb, .int 16])), (tb, .inl (k 0, 400, .inl q))]) sz) := by
  refine gz_met (cc := cX7_addFour) (maxL := 3) (ret := none) (by decide) rfl (Nat.le_of_ble_eq_true rfl) ?_
  intro p_ e_ s_ m below_ meth_ c_ ls hx hb hr hml hts hown hlocks hin hP hE hD hA hS
  generalize hAe : va_A ([(t, .inr (7, [.ref tb, .int 16])), (tb, .inl (k 0, 400, .inl q))]) sz = A at hD hA hS ⊢
  intro hl
  have hl : lv_has ls 3 [(0, .ref t), (1, .int a)] := hl
  refine lv_bipush (v := 24) hx hb dX7_addFour_0 (by decide) ?_
  refine lv_istore_n (lv' := [(2, .int 24), (0, .ref t), (1, .int a)]) hx hb dX7_addFour_2 rfl hl (by decide) rfl (fun ls hl => ?_)
  refine lv_iload_n hx hb dX7_addFour_3 rfl (lv_at hl 0 rfl) ?_
  refine lv_if_lt (tgt := 49) hx hb dX7_addFour_4 (by decide) (fun h9 => absurd h9 (by decide)) (fun _ => ?_)
  refine lv_aload_n hx hb dX7_addFour_7 rfl (lv_at hl 1 rfl) ?_
  refine va_get (D := G) (ci := 7) (v := .int 16) (C := RX7) (T := TX7) (N := 2) hx hb hts j_c_X7_addFour_16_7 hown hE.K hP 0 rfl rfl 1 (by decide) (hts (.fieldLink RX7 13 "GossamerGate$Tape" "length" "I") (List.mem_cons_of_mem _ (List.mem_append_left _ (List.mem_of_getElem? (i := 0) rfl)))) (fun _ h9 => h9) rfl dX7_addFour_8 ?_
  refine lv_sipush (v := 400) hx hb dX7_addFour_11 (by decide) ?_
  refine lv_icmp_ge (tgt := 49) hx hb dX7_addFour_14 (by decide) (fun h9 => absurd h9 (by decide)) (fun _ => ?_)
  refine lv_aload_n hx hb dX7_addFour_17 rfl (lv_at hl 1 rfl) ?_
  refine va_get (D := G) (ci := 7) (v := .ref tb) (C := RX7) (T := TX7) (N := 2) hx hb hts j_c_X7_addFour_16_7 hown hE.K hP 0 rfl rfl 0 (by decide) (hts (.fieldLink RX7 9 "GossamerGate$Tape" "bytes" "[I") (List.mem_cons_of_mem _ (List.mem_append_left _ (List.mem_of_getElem? (i := 1) rfl)))) (fun _ h9 => h9) rfl dX7_addFour_18 ?_
  refine lv_aload_n hx hb dX7_addFour_21 rfl (lv_at hl 1 rfl) ?_
  refine va_get (D := G) (ci := 7) (v := .int 16) (C := RX7) (T := TX7) (N := 2) hx hb hts j_c_X7_addFour_16_7 hown hE.K hP 0 rfl rfl 1 (by decide) (hts (.fieldLink RX7 13 "GossamerGate$Tape" "length" "I") (List.mem_cons_of_mem _ (List.mem_append_left _ (List.mem_of_getElem? (i := 0) rfl)))) (fun _ h9 => h9) rfl dX7_addFour_22 ?_
  refine lv_iload_n hx hb dX7_addFour_25 rfl (lv_at hl 2 rfl) ?_
  refine lv_iload_n hx hb dX7_addFour_26 rfl (lv_at hl 0 rfl) ?_
  refine lv_ishr hx hb dX7_addFour_27 ?_
  refine lv_sipush (v := 255) hx hb dX7_addFour_28 (by decide) ?_
  refine lv_iand hx hb dX7_addFour_31 ?_
  refine lv_topi (fun x_1 ex_1 => ?_)
  refine va_iast hx hb hE.K hP hD hS 1 0 rfl rfl (gz_in (by decide)) dX7_addFour_32 (fun H locs hP hD hS => ?_)
  have hP : va_P G vwCl [(t, .inr (7, [.ref tb, .int 16])), (tb, .inl (k 0, 400, .inl (upd q 16 x_1)))] H := hP
  have hD : va_D A [(t, .inr (7, [.ref tb, .int 16])), (tb, .inl (k 0, 400, .inl (upd q 16 x_1)))] := hD
  refine lv_aload_n hx hb dX7_addFour_33 rfl (lv_at hl 1 rfl) ?_
  refine lv_dup hx hb dX7_addFour_34 rfl ?_
  refine va_get (D := G) (ci := 7) (v := .int 16) (C := RX7) (T := TX7) (N := 2) hx hb hts j_c_X7_addFour_16_7 hown hE.K hP 0 rfl rfl 1 (by decide) (hts (.fieldLink RX7 13 "GossamerGate$Tape" "length" "I") (List.mem_cons_of_mem _ (List.mem_append_left _ (List.mem_of_getElem? (i := 0) rfl)))) (fun _ h9 => h9) rfl dX7_addFour_35 ?_
  refine lv_iconst (v := 1) hx hb dX7_addFour_38 (by decide) ?_
  refine lv_iadd hx hb dX7_addFour_39 ?_
  refine gz_ni (v := 17) (by decide) ?_
  refine va_put (D := G) (ci := 7) (v := .int 17) (ty := .int) (C := RX7) (T := TX7) (N := 2) hx hb hts j_c_X7_addFour_16_7 tyX7 tyX7_ok nmX7 hown hE.K hP hD hS 0 rfl rfl 1 (by decide) (hts (.fieldLink RX7 13 "GossamerGate$Tape" "length" "I") (List.mem_cons_of_mem _ (List.mem_append_left _ (List.mem_of_getElem? (i := 0) rfl)))) (fun _ h9 => h9) rfl (by decide +kernel) rfl rfl (Nat.le_of_ble_eq_true rfl) dX7_addFour_40 (fun H locs hP hD hS => ?_)
  have hP : va_P G vwCl [(t, .inr (7, [.ref tb, .int 17])), (tb, .inl (k 0, 400, .inl (upd q 16 x_1)))] H := hP
  have hD : va_D A [(t, .inr (7, [.ref tb, .int 17])), (tb, .inl (k 0, 400, .inl (upd q 16 x_1)))] := hD
  refine lv_iinc (v := 16) (lv' := [(2, .int 16), (0, .ref t), (1, .int a)]) hx hb dX7_addFour_43 hl (k := 0) rfl (by decide) (by decide) rfl (fun ls hl => ?_)
  refine lv_goto (tgt := 3) hx hb dX7_addFour_46 (by decide) ?_
  refine lv_iload_n hx hb dX7_addFour_3 rfl (lv_at hl 0 rfl) ?_
  refine lv_if_lt (tgt := 49) hx hb dX7_addFour_4 (by decide) (fun h9 => absurd h9 (by decide)) (fun _ => ?_)
  refine lv_aload_n hx hb dX7_addFour_7 rfl (lv_at hl 1 rfl) ?_
  refine va_get (D := G) (ci := 7) (v := .int 17) (C := RX7) (T := TX7) (N := 2) hx hb hts j_c_X7_addFour_16_7 hown hE.K hP 0 rfl rfl 1 (by decide) (hts (.fieldLink RX7 13 "GossamerGate$Tape" "length" "I") (List.mem_cons_of_mem _ (List.mem_append_left _ (List.mem_of_getElem? (i := 0) rfl)))) (fun _ h9 => h9) rfl dX7_addFour_8 ?_
  refine lv_sipush (v := 400) hx hb dX7_addFour_11 (by decide) ?_
  refine lv_icmp_ge (tgt := 49) hx hb dX7_addFour_14 (by decide) (fun h9 => absurd h9 (by decide)) (fun _ => ?_)
  refine lv_aload_n hx hb dX7_addFour_17 rfl (lv_at hl 1 rfl) ?_
  refine va_get (D := G) (ci := 7) (v := .ref tb) (C := RX7) (T := TX7) (N := 2) hx hb hts j_c_X7_addFour_16_7 hown hE.K hP 0 rfl rfl 0 (by decide) (hts (.fieldLink RX7 9 "GossamerGate$Tape" "bytes" "[I") (List.mem_cons_of_mem _ (List.mem_append_left _ (List.mem_of_getElem? (i := 1) rfl)))) (fun _ h9 => h9) rfl dX7_addFour_18 ?_
  refine lv_aload_n hx hb dX7_addFour_21 rfl (lv_at hl 1 rfl) ?_
  refine va_get (D := G) (ci := 7) (v := .int 17) (C := RX7) (T := TX7) (N := 2) hx hb hts j_c_X7_addFour_16_7 hown hE.K hP 0 rfl rfl 1 (by decide) (hts (.fieldLink RX7 13 "GossamerGate$Tape" "length" "I") (List.mem_cons_of_mem _ (List.mem_append_left _ (List.mem_of_getElem? (i := 0) rfl)))) (fun _ h9 => h9) rfl dX7_addFour_22 ?_
  refine lv_iload_n hx hb dX7_addFour_25 rfl (lv_at hl 2 rfl) ?_
  refine lv_iload_n hx hb dX7_addFour_26 rfl (lv_at hl 0 rfl) ?_
  refine lv_ishr hx hb dX7_addFour_27 ?_
  refine lv_sipush (v := 255) hx hb dX7_addFour_28 (by decide) ?_
  refine lv_iand hx hb dX7_addFour_31 ?_
  refine lv_topi (fun x_2 ex_2 => ?_)
  refine va_iast hx hb hE.K hP hD hS 1 0 rfl rfl (gz_in (by decide)) dX7_addFour_32 (fun H locs hP hD hS => ?_)
  have hP : va_P G vwCl [(t, .inr (7, [.ref tb, .int 17])), (tb, .inl (k 0, 400, .inl (upd (upd q 16 x_1) 17 x_2)))] H := hP
  have hD : va_D A [(t, .inr (7, [.ref tb, .int 17])), (tb, .inl (k 0, 400, .inl (upd (upd q 16 x_1) 17 x_2)))] := hD
  refine lv_aload_n hx hb dX7_addFour_33 rfl (lv_at hl 1 rfl) ?_
  refine lv_dup hx hb dX7_addFour_34 rfl ?_
  refine va_get (D := G) (ci := 7) (v := .int 17) (C := RX7) (T := TX7) (N := 2) hx hb hts j_c_X7_addFour_16_7 hown hE.K hP 0 rfl rfl 1 (by decide) (hts (.fieldLink RX7 13 "GossamerGate$Tape" "length" "I") (List.mem_cons_of_mem _ (List.mem_append_left _ (List.mem_of_getElem? (i := 0) rfl)))) (fun _ h9 => h9) rfl dX7_addFour_35 ?_
  refine lv_iconst (v := 1) hx hb dX7_addFour_38 (by decide) ?_
  refine lv_iadd hx hb dX7_addFour_39 ?_
  refine gz_ni (v := 18) (by decide) ?_
  refine va_put (D := G) (ci := 7) (v := .int 18) (ty := .int) (C := RX7) (T := TX7) (N := 2) hx hb hts j_c_X7_addFour_16_7 tyX7 tyX7_ok nmX7 hown hE.K hP hD hS 0 rfl rfl 1 (by decide) (hts (.fieldLink RX7 13 "GossamerGate$Tape" "length" "I") (List.mem_cons_of_mem _ (List.mem_append_left _ (List.mem_of_getElem? (i := 0) rfl)))) (fun _ h9 => h9) rfl (by decide +kernel) rfl rfl (Nat.le_of_ble_eq_true rfl) dX7_addFour_40 (fun H locs hP hD hS => ?_)
  have hP : va_P G vwCl [(t, .inr (7, [.ref tb, .int 18])), (tb, .inl (k 0, 400, .inl (upd (upd q 16 x_1) 17 x_2)))] H := hP
  have hD : va_D A [(t, .inr (7, [.ref tb, .int 18])), (tb, .inl (k 0, 400, .inl (upd (upd q 16 x_1) 17 x_2)))] := hD
  refine lv_iinc (v := 8) (lv' := [(2, .int 8), (0, .ref t), (1, .int a)]) hx hb dX7_addFour_43 hl (k := 0) rfl (by decide) (by decide) rfl (fun ls hl => ?_)
  refine lv_goto (tgt := 3) hx hb dX7_addFour_46 (by decide) ?_
  refine lv_iload_n hx hb dX7_addFour_3 rfl (lv_at hl 0 rfl) ?_
  refine lv_if_lt (tgt := 49) hx hb dX7_addFour_4 (by decide) (fun h9 => absurd h9 (by decide)) (fun _ => ?_)
  refine lv_aload_n hx hb dX7_addFour_7 rfl (lv_at hl 1 rfl) ?_
  refine va_get (D := G) (ci := 7) (v := .int 18) (C := RX7) (T := TX7) (N := 2) hx hb hts j_c_X7_addFour_16_7 hown hE.K hP 0 rfl rfl 1 (by decide) (hts (.fieldLink RX7 13 "GossamerGate$Tape" "length" "I") (List.mem_cons_of_mem _ (List.mem_append_left _ (List.mem_of_getElem? (i := 0) rfl)))) (fun _ h9 => h9) rfl dX7_addFour_8 ?_
  refine lv_sipush (v := 400) hx hb dX7_addFour_11 (by decide) ?_
  refine lv_icmp_ge (tgt := 49) hx hb dX7_addFour_14 (by decide) (fun h9 => absurd h9 (by decide)) (fun _ => ?_)
  refine lv_aload_n hx hb dX7_addFour_17 rfl (lv_at hl 1 rfl) ?_
  refine va_get (D := G) (ci := 7) (v := .ref tb) (C := RX7) (T := TX7) (N := 2) hx hb hts j_c_X7_addFour_16_7 hown hE.K hP 0 rfl rfl 0 (by decide) (hts (.fieldLink RX7 9 "GossamerGate$Tape" "bytes" "[I") (List.mem_cons_of_mem _ (List.mem_append_left _ (List.mem_of_getElem? (i := 1) rfl)))) (fun _ h9 => h9) rfl dX7_addFour_18 ?_
  refine lv_aload_n hx hb dX7_addFour_21 rfl (lv_at hl 1 rfl) ?_
  refine va_get (D := G) (ci := 7) (v := .int 18) (C := RX7) (T := TX7) (N := 2) hx hb hts j_c_X7_addFour_16_7 hown hE.K hP 0 rfl rfl 1 (by decide) (hts (.fieldLink RX7 13 "GossamerGate$Tape" "length" "I") (List.mem_cons_of_mem _ (List.mem_append_left _ (List.mem_of_getElem? (i := 0) rfl)))) (fun _ h9 => h9) rfl dX7_addFour_22 ?_
  refine lv_iload_n hx hb dX7_addFour_25 rfl (lv_at hl 2 rfl) ?_
  refine lv_iload_n hx hb dX7_addFour_26 rfl (lv_at hl 0 rfl) ?_
  refine lv_ishr hx hb dX7_addFour_27 ?_
  refine lv_sipush (v := 255) hx hb dX7_addFour_28 (by decide) ?_
  refine lv_iand hx hb dX7_addFour_31 ?_
  refine lv_topi (fun x_3 ex_3 => ?_)
  refine va_iast hx hb hE.K hP hD hS 1 0 rfl rfl (gz_in (by decide)) dX7_addFour_32 (fun H locs hP hD hS => ?_)
  have hP : va_P G vwCl [(t, .inr (7, [.ref tb, .int 18])), (tb, .inl (k 0, 400, .inl (upd (upd (upd q 16 x_1) 17 x_2) 18 x_3)))] H := hP
  have hD : va_D A [(t, .inr (7, [.ref tb, .int 18])), (tb, .inl (k 0, 400, .inl (upd (upd (upd q 16 x_1) 17 x_2) 18 x_3)))] := hD
  refine lv_aload_n hx hb dX7_addFour_33 rfl (lv_at hl 1 rfl) ?_
  refine lv_dup hx hb dX7_addFour_34 rfl ?_
  refine va_get (D := G) (ci := 7) (v := .int 18) (C := RX7) (T := TX7) (N := 2) hx hb hts j_c_X7_addFour_16_7 hown hE.K hP 0 rfl rfl 1 (by decide) (hts (.fieldLink RX7 13 "GossamerGate$Tape" "length" "I") (List.mem_cons_of_mem _ (List.mem_append_left _ (List.mem_of_getElem? (i := 0) rfl)))) (fun _ h9 => h9) rfl dX7_addFour_35 ?_
  refine lv_iconst (v := 1) hx hb dX7_addFour_38 (by decide) ?_
  refine lv_iadd hx hb dX7_addFour_39 ?_
  refine gz_ni (v := 19) (by decide) ?_
  refine va_put (D := G) (ci := 7) (v := .int 19) (ty := .int) (C := RX7) (T := TX7) (N := 2) hx hb hts j_c_X7_addFour_16_7 tyX7 tyX7_ok nmX7 hown hE.K hP hD hS 0 rfl rfl 1 (by decide) (hts (.fieldLink RX7 13 "GossamerGate$Tape" "length" "I") (List.mem_cons_of_mem _ (List.mem_append_left _ (List.mem_of_getElem? (i := 0) rfl)))) (fun _ h9 => h9) rfl (by decide +kernel) rfl rfl (Nat.le_of_ble_eq_true rfl) dX7_addFour_40 (fun H locs hP hD hS => ?_)
  have hP : va_P G vwCl [(t, .inr (7, [.ref tb, .int 19])), (tb, .inl (k 0, 400, .inl (upd (upd (upd q 16 x_1) 17 x_2) 18 x_3)))] H := hP
  have hD : va_D A [(t, .inr (7, [.ref tb, .int 19])), (tb, .inl (k 0, 400, .inl (upd (upd (upd q 16 x_1) 17 x_2) 18 x_3)))] := hD
  refine lv_iinc (v := 0) (lv' := [(2, .int 0), (0, .ref t), (1, .int a)]) hx hb dX7_addFour_43 hl (k := 0) rfl (by decide) (by decide) rfl (fun ls hl => ?_)
  refine lv_goto (tgt := 3) hx hb dX7_addFour_46 (by decide) ?_
  refine lv_iload_n hx hb dX7_addFour_3 rfl (lv_at hl 0 rfl) ?_
  refine lv_if_lt (tgt := 49) hx hb dX7_addFour_4 (by decide) (fun h9 => absurd h9 (by decide)) (fun _ => ?_)
  refine lv_aload_n hx hb dX7_addFour_7 rfl (lv_at hl 1 rfl) ?_
  refine va_get (D := G) (ci := 7) (v := .int 19) (C := RX7) (T := TX7) (N := 2) hx hb hts j_c_X7_addFour_16_7 hown hE.K hP 0 rfl rfl 1 (by decide) (hts (.fieldLink RX7 13 "GossamerGate$Tape" "length" "I") (List.mem_cons_of_mem _ (List.mem_append_left _ (List.mem_of_getElem? (i := 0) rfl)))) (fun _ h9 => h9) rfl dX7_addFour_8 ?_
  refine lv_sipush (v := 400) hx hb dX7_addFour_11 (by decide) ?_
  refine lv_icmp_ge (tgt := 49) hx hb dX7_addFour_14 (by decide) (fun h9 => absurd h9 (by decide)) (fun _ => ?_)
  refine lv_aload_n hx hb dX7_addFour_17 rfl (lv_at hl 1 rfl) ?_
  refine va_get (D := G) (ci := 7) (v := .ref tb) (C := RX7) (T := TX7) (N := 2) hx hb hts j_c_X7_addFour_16_7 hown hE.K hP 0 rfl rfl 0 (by decide) (hts (.fieldLink RX7 9 "GossamerGate$Tape" "bytes" "[I") (List.mem_cons_of_mem _ (List.mem_append_left _ (List.mem_of_getElem? (i := 1) rfl)))) (fun _ h9 => h9) rfl dX7_addFour_18 ?_
  refine lv_aload_n hx hb dX7_addFour_21 rfl (lv_at hl 1 rfl) ?_
  refine va_get (D := G) (ci := 7) (v := .int 19) (C := RX7) (T := TX7) (N := 2) hx hb hts j_c_X7_addFour_16_7 hown hE.K hP 0 rfl rfl 1 (by decide) (hts (.fieldLink RX7 13 "GossamerGate$Tape" "length" "I") (List.mem_cons_of_mem _ (List.mem_append_left _ (List.mem_of_getElem? (i := 0) rfl)))) (fun _ h9 => h9) rfl dX7_addFour_22 ?_
  refine lv_iload_n hx hb dX7_addFour_25 rfl (lv_at hl 2 rfl) ?_
  refine lv_iload_n hx hb dX7_addFour_26 rfl (lv_at hl 0 rfl) ?_
  refine lv_ishr hx hb dX7_addFour_27 ?_
  refine lv_sipush (v := 255) hx hb dX7_addFour_28 (by decide) ?_
  refine lv_iand hx hb dX7_addFour_31 ?_
  refine lv_topi (fun x_4 ex_4 => ?_)
  refine va_iast hx hb hE.K hP hD hS 1 0 rfl rfl (gz_in (by decide)) dX7_addFour_32 (fun H locs hP hD hS => ?_)
  have hP : va_P G vwCl [(t, .inr (7, [.ref tb, .int 19])), (tb, .inl (k 0, 400, .inl (upd (upd (upd (upd q 16 x_1) 17 x_2) 18 x_3) 19 x_4)))] H := hP
  have hD : va_D A [(t, .inr (7, [.ref tb, .int 19])), (tb, .inl (k 0, 400, .inl (upd (upd (upd (upd q 16 x_1) 17 x_2) 18 x_3) 19 x_4)))] := hD
  refine lv_aload_n hx hb dX7_addFour_33 rfl (lv_at hl 1 rfl) ?_
  refine lv_dup hx hb dX7_addFour_34 rfl ?_
  refine va_get (D := G) (ci := 7) (v := .int 19) (C := RX7) (T := TX7) (N := 2) hx hb hts j_c_X7_addFour_16_7 hown hE.K hP 0 rfl rfl 1 (by decide) (hts (.fieldLink RX7 13 "GossamerGate$Tape" "length" "I") (List.mem_cons_of_mem _ (List.mem_append_left _ (List.mem_of_getElem? (i := 0) rfl)))) (fun _ h9 => h9) rfl dX7_addFour_35 ?_
  refine lv_iconst (v := 1) hx hb dX7_addFour_38 (by decide) ?_
  refine lv_iadd hx hb dX7_addFour_39 ?_
  refine gz_ni (v := 20) (by decide) ?_
  refine va_put (D := G) (ci := 7) (v := .int 20) (ty := .int) (C := RX7) (T := TX7) (N := 2) hx hb hts j_c_X7_addFour_16_7 tyX7 tyX7_ok nmX7 hown hE.K hP hD hS 0 rfl rfl 1 (by decide) (hts (.fieldLink RX7 13 "GossamerGate$Tape" "length" "I") (List.mem_cons_of_mem _ (List.mem_append_left _ (List.mem_of_getElem? (i := 0) rfl)))) (fun _ h9 => h9) rfl (by decide +kernel) rfl rfl (Nat.le_of_ble_eq_true rfl) dX7_addFour_40 (fun H locs hP hD hS => ?_)
  have hP : va_P G vwCl [(t, .inr (7, [.ref tb, .int 20])), (tb, .inl (k 0, 400, .inl (upd (upd (upd (upd q 16 x_1) 17 x_2) 18 x_3) 19 x_4)))] H := hP
  have hD : va_D A [(t, .inr (7, [.ref tb, .int 20])), (tb, .inl (k 0, 400, .inl (upd (upd (upd (upd q 16 x_1) 17 x_2) 18 x_3) 19 x_4)))] := hD
  refine lv_iinc (v := (-8)) (lv' := [(2, .int (-8)), (0, .ref t), (1, .int a)]) hx hb dX7_addFour_43 hl (k := 0) rfl (by decide) (by decide) rfl (fun ls hl => ?_)
  refine lv_goto (tgt := 3) hx hb dX7_addFour_46 (by decide) ?_
  refine lv_iload_n hx hb dX7_addFour_3 rfl (lv_at hl 0 rfl) ?_
  refine lv_if_lt (tgt := 49) hx hb dX7_addFour_4 (by decide) (fun _ => ?_) (fun h9 => absurd h9 (by decide))
  have hP9 := hP.sub (ws' := [(t, .inr (7, [.ref tb, .int 20])), (tb, .inl (k 0, 400, .inl (upd (upd (upd (upd q 16 x_1) 17 x_2) 18 x_3) 19 x_4)))]) [0, 1] rfl
  have hD9 := hD.sub (ws' := [(t, .inr (7, [.ref tb, .int 20])), (tb, .inl (k 0, 400, .inl (upd (upd (upd (upd q 16 x_1) 17 x_2) 18 x_3) 19 x_4)))]) [0, 1] (by decide) rfl
  exact W.vret hx hb hr (fun t ht hW => ⟨⟨upd (upd (upd (upd q 16 x_1) 17 x_2) 18 x_3) 19 x_4, rfl, trivial, by rw [ht]; exact hP9, hD9⟩, hS.F ht⟩) hS.2.2 dX7_addFour_49
set_option maxHeartbeats 4000000 in
set_option maxRecDepth 100000 in
theorem c_X7_hasRoom (l : Launch) (G : va_G) (k : Nat → ClassId) (sa : Nat → Nat) (t : Nat) (tb : Nat) : Met l yX7_hasRoom vs_c_X7_hasRoom ({ frames := 0, cells := 0, slots := 0, locals := 0 } : Room) (gR G k sa [.ref t] [(t, .inr (7, [.ref tb, .int 0]))]) (vp_Si (fun r => r = 1)) 0 0 (fun _ => False) := by
  refine gz_metR (cc := cX7_hasRoom) (maxL := 1) (ret := (some .boolean)) (by decide) rfl (Nat.le_of_ble_eq_true rfl) ?_
  intro p_ e_ s_ m below_ meth_ c_ ls hx hb hr hml hts hown hlocks hP hE hl
  have hl : lv_has ls 1 [(0, .ref t)] := hl
  refine lv_aload_n hx hb dX7_hasRoom_0 rfl (lv_at hl 0 rfl) ?_
  refine va_get (D := G) (ci := 7) (v := .int 0) (C := RX7) (T := TX7) (N := 2) hx hb hts j_c_X7_hasRoom_7 hown hE.K hP 0 rfl rfl 1 (by decide) (hts (.fieldLink RX7 13 "GossamerGate$Tape" "length" "I") (List.mem_cons_of_mem _ (List.mem_append_left _ (List.mem_of_getElem? (i := 0) rfl)))) (fun _ h9 => h9) rfl dX7_hasRoom_1 ?_
  refine lv_bipush (v := 20) hx hb dX7_hasRoom_4 (by decide) ?_
  refine lv_iadd hx hb dX7_hasRoom_6 ?_
  refine gz_ni (v := 20) (by decide) ?_
  refine lv_sipush (v := 400) hx hb dX7_hasRoom_7 (by decide) ?_
  refine lv_icmp_gt (tgt := 17) hx hb dX7_hasRoom_10 (by decide) (fun h9 => absurd h9 (by decide)) (fun _ => ?_)
  refine lv_iconst (v := 1) hx hb dX7_hasRoom_13 (by decide) ?_
  refine lv_goto (tgt := 18) hx hb dX7_hasRoom_14 (by decide) ?_
  exact W.zret (v := 1) hx hb hr (by decide) (fun t ht hW => ⟨1, rfl, rfl, ht⟩) (fun _ h9 => absurd h9 List.not_mem_nil) dX7_hasRoom_18
set_option maxHeartbeats 4000000 in
set_option maxRecDepth 100000 in
theorem c_X10_feed (l : Launch) (G : va_G) (k : Nat → ClassId) (sa : Nat → Nat) (sz : Nat) (h0 : Nat) (v : Nat → Nat) (a : Int32) (b : Int32) (c : Int32) (d : Int32) (e : Int32) : Met l yX10_feed vs_c_X10_feed ({ frames := 1, cells := 0, slots := 0, locals := 22 } : Room) (gP G k sa [.ref h0, .int a, .int b, .int c, .int d, .int e] [(h0, .inr (10, [.ref (v 0), .ref (v 1), .ref (v 2), .ref (v 3), .ref (v 4), .int 0, .ref (v 5), .ref (v 6), .ref (v 7), .ref (v 8), .ref (v 9), .ref (v 10), .ref (v 11), .ref (v 12), .ref (v 13), .int 0])), (v 0, .inr (7, [.ref (v 14), .int 0])), (v 14, .inl (k 0, 400, .inl (fun _ => 0)))] sz) (va_Qi (fun r (_ : Nat → Nat) => r = 20) (gO G (va_A ([(h0, .inr (10, [.ref (v 0), .ref (v 1), .ref (v 2), .ref (v 3), .ref (v 4), .int 0, .ref (v 5), .ref (v 6), .ref (v 7), .ref (v 8), .ref (v 9), .ref (v 10), .ref (v 11), .ref (v 12), .ref (v 13), .int 0])), (v 0, .inr (7, [.ref (v 14), .int 0])), (v 14, .inl (k 0, 400, .inl (fun _ => 0)))]) sz) (fun _ => [])) (va_A ([(h0, .inr (10, [.ref (v 0), .ref (v 1), .ref (v 2), .ref (v 3), .ref (v 4), .int 0, .ref (v 5), .ref (v 6), .ref (v 7), .ref (v 8), .ref (v 9), .ref (v 10), .ref (v 11), .ref (v 12), .ref (v 13), .int 0])), (v 0, .inr (7, [.ref (v 14), .int 0])), (v 14, .inl (k 0, 400, .inl (fun _ => 0)))]) sz)) 0 0 (va_A ([(h0, .inr (10, [.ref (v 0), .ref (v 1), .ref (v 2), .ref (v 3), .ref (v 4), .int 0, .ref (v 5), .ref (v 6), .ref (v 7), .ref (v 8), .ref (v 9), .ref (v 10), .ref (v 11), .ref (v 12), .ref (v 13), .int 0])), (v 0, .inr (7, [.ref (v 14), .int 0])), (v 14, .inl (k 0, 400, .inl (fun _ => 0)))]) sz) := by
  refine gz_met (cc := cX10_feed) (maxL := 6) (ret := (some .int)) (by decide) rfl (Nat.le_of_ble_eq_true rfl) ?_
  intro p_ e_ s_ m below_ meth_ c_ ls hx hb hr hml hts hown hlocks hin hP hE hD hA hS
  generalize hAe : va_A ([(h0, .inr (10, [.ref (v 0), .ref (v 1), .ref (v 2), .ref (v 3), .ref (v 4), .int 0, .ref (v 5), .ref (v 6), .ref (v 7), .ref (v 8), .ref (v 9), .ref (v 10), .ref (v 11), .ref (v 12), .ref (v 13), .int 0])), (v 0, .inr (7, [.ref (v 14), .int 0])), (v 14, .inl (k 0, 400, .inl (fun _ => 0)))]) sz = A at hD hA hS ⊢
  intro hl
  have hl : lv_has ls 6 [(0, .ref h0), (1, .int a), (2, .int b), (3, .int c), (4, .int d), (5, .int e)] := hl
  refine lv_aload_n hx hb dX10_feed_0 rfl (lv_at hl 0 rfl) ?_
  refine va_get (D := G) (ci := 10) (v := .ref (v 0)) (C := RX10) (T := TX10) (N := 16) hx hb hts j_c_X10_feed_10 hown hE.K hP 0 rfl rfl 0 (by decide) (hts (.fieldLink RX10 10 "GossamerGate" "tape" "LGossamerGate$Tape;") (List.mem_cons_of_mem _ (List.mem_append_left _ (List.mem_of_getElem? (i := 0) rfl)))) (fun _ h9 => h9) rfl dX10_feed_1 ?_
  refine vp_callSi (W.runV (As := []) (rest := []) ⟨hx, hb, hml, hown, hts⟩ (c_X7_hasRoom l G k sa (v 0) (v 14)) (cwV 0 hts g_c_X10_feed_99_c_X7_hasRoom rfl rfl rfl (by decide +kernel) ⟨(Nat.le_of_ble_eq_true rfl), (Nat.le_of_ble_eq_true rfl)⟩) ⟨gR.bl, va_recv hE.K hP (ci := 7) (q0 := 1) rfl rfl, (gR.pre (wc := [((v 0), .inr (7, [.ref (v 14), .int 0]))]) hE hP [1] rfl)⟩ rfl rfl hl.1 rfl (lv_room (Nat.le_of_ble_eq_true rfl)) dX10_feed_4 ⟨(Nat.le_of_ble_eq_true rfl), (Nat.le_of_ble_eq_true rfl)⟩) (fun r_1 hr_1 => ?_)
  obtain rfl : r_1 = 1 := hr_1
  refine lv_if_ne (tgt := 12) hx hb dX10_feed_7 (by decide) (fun _ => ?_) (fun h9 => absurd h9 (by decide))
  refine lv_aload_n hx hb dX10_feed_12 rfl (lv_at hl 0 rfl) ?_
  refine va_get (D := G) (ci := 10) (v := .ref (v 0)) (C := RX10) (T := TX10) (N := 16) hx hb hts j_c_X10_feed_10 hown hE.K hP 0 rfl rfl 0 (by decide) (hts (.fieldLink RX10 10 "GossamerGate" "tape" "LGossamerGate$Tape;") (List.mem_cons_of_mem _ (List.mem_append_left _ (List.mem_of_getElem? (i := 0) rfl)))) (fun _ h9 => h9) rfl dX10_feed_13 ?_
  refine lv_iload_n hx hb dX10_feed_16 rfl (lv_at hl 1 rfl) ?_
  refine gz_v (wc := [((v 0), .inr (7, [.ref (v 14), .int 0])), ((v 14), .inl (k 0, 400, .inl (fun _ => 0)))]) (wr := [(h0, .inr (10, [.ref (v 0), .ref (v 1), .ref (v 2), .ref (v 3), .ref (v 4), .int 0, .ref (v 5), .ref (v 6), .ref (v 7), .ref (v 8), .ref (v 9), .ref (v 10), .ref (v 11), .ref (v 12), .ref (v 13), .int 0]))]) hP hD hS hA [1, 2] [0] rfl rfl (by decide) (by decide) (va_runV (As := [.int a]) (rest := []) ⟨hx, hb, hml, hown, hts⟩ (c_X7_addFour_0 l G k sa _ (v 0) (v 14) a (fun _ => 0)) (cwV 1 hts g_c_X10_feed_103_c_X7_addFour_0 rfl rfl rfl (by decide +kernel) ⟨(Nat.le_of_ble_eq_true rfl), (Nat.le_of_ble_eq_true rfl)⟩) ⟨gP.bl, va_recv hE.K hP (ci := 7) (q0 := 1) rfl rfl, (gP.pre (wc := [((v 0), .inr (7, [.ref (v 14), .int 0])), ((v 14), .inl (k 0, 400, .inl (fun _ => 0)))]) hE hP hD [1, 2] rfl (by decide))⟩ rfl rfl hl.1 rfl (lv_room (Nat.le_of_ble_eq_true rfl)) dX10_feed_17 ⟨(Nat.le_of_ble_eq_true rfl), (Nat.le_of_ble_eq_true rfl)⟩) (fun u_2 H locs _ hP hD hS => ?_)
  have hP : va_P G vwCl [(h0, .inr (10, [.ref (v 0), .ref (v 1), .ref (v 2), .ref (v 3), .ref (v 4), .int 0, .ref (v 5), .ref (v 6), .ref (v 7), .ref (v 8), .ref (v 9), .ref (v 10), .ref (v 11), .ref (v 12), .ref (v 13), .int 0])), ((v 0), .inr (7, [.ref (v 14), .int 4])), ((v 14), .inl (k 0, 400, .inl u_2))] H := hP
  have hD : va_D A [(h0, .inr (10, [.ref (v 0), .ref (v 1), .ref (v 2), .ref (v 3), .ref (v 4), .int 0, .ref (v 5), .ref (v 6), .ref (v 7), .ref (v 8), .ref (v 9), .ref (v 10), .ref (v 11), .ref (v 12), .ref (v 13), .int 0])), ((v 0), .inr (7, [.ref (v 14), .int 4])), ((v 14), .inl (k 0, 400, .inl u_2))] := hD
  refine lv_aload_n hx hb dX10_feed_20 rfl (lv_at hl 0 rfl) ?_
  refine va_get (D := G) (ci := 10) (v := .ref (v 0)) (C := RX10) (T := TX10) (N := 16) hx hb hts j_c_X10_feed_10 hown hE.K hP 0 rfl rfl 0 (by decide) (hts (.fieldLink RX10 10 "GossamerGate" "tape" "LGossamerGate$Tape;") (List.mem_cons_of_mem _ (List.mem_append_left _ (List.mem_of_getElem? (i := 0) rfl)))) (fun _ h9 => h9) rfl dX10_feed_21 ?_
  refine lv_iload_n hx hb dX10_feed_24 rfl (lv_at hl 2 rfl) ?_
  refine gz_v (wc := [((v 0), .inr (7, [.ref (v 14), .int 4])), ((v 14), .inl (k 0, 400, .inl u_2))]) (wr := [(h0, .inr (10, [.ref (v 0), .ref (v 1), .ref (v 2), .ref (v 3), .ref (v 4), .int 0, .ref (v 5), .ref (v 6), .ref (v 7), .ref (v 8), .ref (v 9), .ref (v 10), .ref (v 11), .ref (v 12), .ref (v 13), .int 0]))]) hP hD hS hA [1, 2] [0] rfl rfl (by decide) (by decide) (va_runV (As := [.int b]) (rest := []) ⟨hx, hb, hml, hown, hts⟩ (c_X7_addFour_4 l G k sa _ (v 0) (v 14) b u_2) (cwV 1 hts g_c_X10_feed_103_c_X7_addFour_4 rfl rfl rfl (by decide +kernel) ⟨(Nat.le_of_ble_eq_true rfl), (Nat.le_of_ble_eq_true rfl)⟩) ⟨gP.bl, va_recv hE.K hP (ci := 7) (q0 := 1) rfl rfl, (gP.pre (wc := [((v 0), .inr (7, [.ref (v 14), .int 4])), ((v 14), .inl (k 0, 400, .inl u_2))]) hE hP hD [1, 2] rfl (by decide))⟩ rfl rfl hl.1 rfl (lv_room (Nat.le_of_ble_eq_true rfl)) dX10_feed_25 ⟨(Nat.le_of_ble_eq_true rfl), (Nat.le_of_ble_eq_true rfl)⟩) (fun u_3 H locs _ hP hD hS => ?_)
  have hP : va_P G vwCl [(h0, .inr (10, [.ref (v 0), .ref (v 1), .ref (v 2), .ref (v 3), .ref (v 4), .int 0, .ref (v 5), .ref (v 6), .ref (v 7), .ref (v 8), .ref (v 9), .ref (v 10), .ref (v 11), .ref (v 12), .ref (v 13), .int 0])), ((v 0), .inr (7, [.ref (v 14), .int 8])), ((v 14), .inl (k 0, 400, .inl u_3))] H := hP
  have hD : va_D A [(h0, .inr (10, [.ref (v 0), .ref (v 1), .ref (v 2), .ref (v 3), .ref (v 4), .int 0, .ref (v 5), .ref (v 6), .ref (v 7), .ref (v 8), .ref (v 9), .ref (v 10), .ref (v 11), .ref (v 12), .ref (v 13), .int 0])), ((v 0), .inr (7, [.ref (v 14), .int 8])), ((v 14), .inl (k 0, 400, .inl u_3))] := hD
  refine lv_aload_n hx hb dX10_feed_28 rfl (lv_at hl 0 rfl) ?_
  refine va_get (D := G) (ci := 10) (v := .ref (v 0)) (C := RX10) (T := TX10) (N := 16) hx hb hts j_c_X10_feed_10 hown hE.K hP 0 rfl rfl 0 (by decide) (hts (.fieldLink RX10 10 "GossamerGate" "tape" "LGossamerGate$Tape;") (List.mem_cons_of_mem _ (List.mem_append_left _ (List.mem_of_getElem? (i := 0) rfl)))) (fun _ h9 => h9) rfl dX10_feed_29 ?_
  refine lv_iload_n hx hb dX10_feed_32 rfl (lv_at hl 3 rfl) ?_
  refine gz_v (wc := [((v 0), .inr (7, [.ref (v 14), .int 8])), ((v 14), .inl (k 0, 400, .inl u_3))]) (wr := [(h0, .inr (10, [.ref (v 0), .ref (v 1), .ref (v 2), .ref (v 3), .ref (v 4), .int 0, .ref (v 5), .ref (v 6), .ref (v 7), .ref (v 8), .ref (v 9), .ref (v 10), .ref (v 11), .ref (v 12), .ref (v 13), .int 0]))]) hP hD hS hA [1, 2] [0] rfl rfl (by decide) (by decide) (va_runV (As := [.int c]) (rest := []) ⟨hx, hb, hml, hown, hts⟩ (c_X7_addFour_8 l G k sa _ (v 0) (v 14) c u_3) (cwV 1 hts g_c_X10_feed_103_c_X7_addFour_8 rfl rfl rfl (by decide +kernel) ⟨(Nat.le_of_ble_eq_true rfl), (Nat.le_of_ble_eq_true rfl)⟩) ⟨gP.bl, va_recv hE.K hP (ci := 7) (q0 := 1) rfl rfl, (gP.pre (wc := [((v 0), .inr (7, [.ref (v 14), .int 8])), ((v 14), .inl (k 0, 400, .inl u_3))]) hE hP hD [1, 2] rfl (by decide))⟩ rfl rfl hl.1 rfl (lv_room (Nat.le_of_ble_eq_true rfl)) dX10_feed_33 ⟨(Nat.le_of_ble_eq_true rfl), (Nat.le_of_ble_eq_true rfl)⟩) (fun u_4 H locs _ hP hD hS => ?_)
  have hP : va_P G vwCl [(h0, .inr (10, [.ref (v 0), .ref (v 1), .ref (v 2), .ref (v 3), .ref (v 4), .int 0, .ref (v 5), .ref (v 6), .ref (v 7), .ref (v 8), .ref (v 9), .ref (v 10), .ref (v 11), .ref (v 12), .ref (v 13), .int 0])), ((v 0), .inr (7, [.ref (v 14), .int 12])), ((v 14), .inl (k 0, 400, .inl u_4))] H := hP
  have hD : va_D A [(h0, .inr (10, [.ref (v 0), .ref (v 1), .ref (v 2), .ref (v 3), .ref (v 4), .int 0, .ref (v 5), .ref (v 6), .ref (v 7), .ref (v 8), .ref (v 9), .ref (v 10), .ref (v 11), .ref (v 12), .ref (v 13), .int 0])), ((v 0), .inr (7, [.ref (v 14), .int 12])), ((v 14), .inl (k 0, 400, .inl u_4))] := hD
  refine lv_aload_n hx hb dX10_feed_36 rfl (lv_at hl 0 rfl) ?_
  refine va_get (D := G) (ci := 10) (v := .ref (v 0)) (C := RX10) (T := TX10) (N := 16) hx hb hts j_c_X10_feed_10 hown hE.K hP 0 rfl rfl 0 (by decide) (hts (.fieldLink RX10 10 "GossamerGate" "tape" "LGossamerGate$Tape;") (List.mem_cons_of_mem _ (List.mem_append_left _ (List.mem_of_getElem? (i := 0) rfl)))) (fun _ h9 => h9) rfl dX10_feed_37 ?_
  refine lv_iload hx hb dX10_feed_40 (lv_at hl 4 rfl) ?_
  refine gz_v (wc := [((v 0), .inr (7, [.ref (v 14), .int 12])), ((v 14), .inl (k 0, 400, .inl u_4))]) (wr := [(h0, .inr (10, [.ref (v 0), .ref (v 1), .ref (v 2), .ref (v 3), .ref (v 4), .int 0, .ref (v 5), .ref (v 6), .ref (v 7), .ref (v 8), .ref (v 9), .ref (v 10), .ref (v 11), .ref (v 12), .ref (v 13), .int 0]))]) hP hD hS hA [1, 2] [0] rfl rfl (by decide) (by decide) (va_runV (As := [.int d]) (rest := []) ⟨hx, hb, hml, hown, hts⟩ (c_X7_addFour_12 l G k sa _ (v 0) (v 14) d u_4) (cwV 1 hts g_c_X10_feed_103_c_X7_addFour_12 rfl rfl rfl (by decide +kernel) ⟨(Nat.le_of_ble_eq_true rfl), (Nat.le_of_ble_eq_true rfl)⟩) ⟨gP.bl, va_recv hE.K hP (ci := 7) (q0 := 1) rfl rfl, (gP.pre (wc := [((v 0), .inr (7, [.ref (v 14), .int 12])), ((v 14), .inl (k 0, 400, .inl u_4))]) hE hP hD [1, 2] rfl (by decide))⟩ rfl rfl hl.1 rfl (lv_room (Nat.le_of_ble_eq_true rfl)) dX10_feed_42 ⟨(Nat.le_of_ble_eq_true rfl), (Nat.le_of_ble_eq_true rfl)⟩) (fun u_5 H locs _ hP hD hS => ?_)
  have hP : va_P G vwCl [(h0, .inr (10, [.ref (v 0), .ref (v 1), .ref (v 2), .ref (v 3), .ref (v 4), .int 0, .ref (v 5), .ref (v 6), .ref (v 7), .ref (v 8), .ref (v 9), .ref (v 10), .ref (v 11), .ref (v 12), .ref (v 13), .int 0])), ((v 0), .inr (7, [.ref (v 14), .int 16])), ((v 14), .inl (k 0, 400, .inl u_5))] H := hP
  have hD : va_D A [(h0, .inr (10, [.ref (v 0), .ref (v 1), .ref (v 2), .ref (v 3), .ref (v 4), .int 0, .ref (v 5), .ref (v 6), .ref (v 7), .ref (v 8), .ref (v 9), .ref (v 10), .ref (v 11), .ref (v 12), .ref (v 13), .int 0])), ((v 0), .inr (7, [.ref (v 14), .int 16])), ((v 14), .inl (k 0, 400, .inl u_5))] := hD
  refine lv_aload_n hx hb dX10_feed_45 rfl (lv_at hl 0 rfl) ?_
  refine va_get (D := G) (ci := 10) (v := .ref (v 0)) (C := RX10) (T := TX10) (N := 16) hx hb hts j_c_X10_feed_10 hown hE.K hP 0 rfl rfl 0 (by decide) (hts (.fieldLink RX10 10 "GossamerGate" "tape" "LGossamerGate$Tape;") (List.mem_cons_of_mem _ (List.mem_append_left _ (List.mem_of_getElem? (i := 0) rfl)))) (fun _ h9 => h9) rfl dX10_feed_46 ?_
  refine lv_iload hx hb dX10_feed_49 (lv_at hl 5 rfl) ?_
  refine gz_v (wc := [((v 0), .inr (7, [.ref (v 14), .int 16])), ((v 14), .inl (k 0, 400, .inl u_5))]) (wr := [(h0, .inr (10, [.ref (v 0), .ref (v 1), .ref (v 2), .ref (v 3), .ref (v 4), .int 0, .ref (v 5), .ref (v 6), .ref (v 7), .ref (v 8), .ref (v 9), .ref (v 10), .ref (v 11), .ref (v 12), .ref (v 13), .int 0]))]) hP hD hS hA [1, 2] [0] rfl rfl (by decide) (by decide) (va_runV (As := [.int e]) (rest := []) ⟨hx, hb, hml, hown, hts⟩ (c_X7_addFour_16 l G k sa _ (v 0) (v 14) e u_5) (cwV 1 hts g_c_X10_feed_103_c_X7_addFour_16 rfl rfl rfl (by decide +kernel) ⟨(Nat.le_of_ble_eq_true rfl), (Nat.le_of_ble_eq_true rfl)⟩) ⟨gP.bl, va_recv hE.K hP (ci := 7) (q0 := 1) rfl rfl, (gP.pre (wc := [((v 0), .inr (7, [.ref (v 14), .int 16])), ((v 14), .inl (k 0, 400, .inl u_5))]) hE hP hD [1, 2] rfl (by decide))⟩ rfl rfl hl.1 rfl (lv_room (Nat.le_of_ble_eq_true rfl)) dX10_feed_51 ⟨(Nat.le_of_ble_eq_true rfl), (Nat.le_of_ble_eq_true rfl)⟩) (fun u_6 H locs _ hP hD hS => ?_)
  have hP : va_P G vwCl [(h0, .inr (10, [.ref (v 0), .ref (v 1), .ref (v 2), .ref (v 3), .ref (v 4), .int 0, .ref (v 5), .ref (v 6), .ref (v 7), .ref (v 8), .ref (v 9), .ref (v 10), .ref (v 11), .ref (v 12), .ref (v 13), .int 0])), ((v 0), .inr (7, [.ref (v 14), .int 20])), ((v 14), .inl (k 0, 400, .inl u_6))] H := hP
  have hD : va_D A [(h0, .inr (10, [.ref (v 0), .ref (v 1), .ref (v 2), .ref (v 3), .ref (v 4), .int 0, .ref (v 5), .ref (v 6), .ref (v 7), .ref (v 8), .ref (v 9), .ref (v 10), .ref (v 11), .ref (v 12), .ref (v 13), .int 0])), ((v 0), .inr (7, [.ref (v 14), .int 20])), ((v 14), .inl (k 0, 400, .inl u_6))] := hD
  refine lv_aload_n hx hb dX10_feed_54 rfl (lv_at hl 0 rfl) ?_
  refine va_get (D := G) (ci := 10) (v := .ref (v 0)) (C := RX10) (T := TX10) (N := 16) hx hb hts j_c_X10_feed_10 hown hE.K hP 0 rfl rfl 0 (by decide) (hts (.fieldLink RX10 10 "GossamerGate" "tape" "LGossamerGate$Tape;") (List.mem_cons_of_mem _ (List.mem_append_left _ (List.mem_of_getElem? (i := 0) rfl)))) (fun _ h9 => h9) rfl dX10_feed_55 ?_
  refine va_get (D := G) (ci := 7) (v := .int 20) (C := RX7) (T := TX7) (N := 2) hx hb hts j_c_X10_feed_7 hown hE.K hP 1 rfl rfl 1 (by decide) (hts (.fieldLink RX10 107 "GossamerGate$Tape" "length" "I") (List.mem_cons_of_mem _ (List.mem_append_left _ (List.mem_of_getElem? (i := 8) rfl)))) (fun _ h9 => h9) rfl dX10_feed_58 ?_
  have hP9 := hP.sub (ws' := []) [] rfl
  have hD9 := hD.sub (ws' := []) [] (by decide) rfl
  exact W.iret (v := 20) hx hb hr (fun t ht hW => ⟨⟨20, (fun _ => 0), rfl, rfl, by rw [ht]; exact hP9, hD9⟩, hS.F ht⟩) hS.2.2 dX10_feed_61
set_option maxHeartbeats 4000000 in
set_option maxRecDepth 100000 in
theorem c_X10_end (l : Launch) (G : va_G) (k : Nat → ClassId) (sa : Nat → Nat) (sz : Nat) (h0 : Nat) (v : Nat → Nat) (a : Int32) : Met l yX10_end vs_c_X10_end ({ frames := 1, cells := 0, slots := 0, locals := 22 } : Room) (gP G k sa [.ref h0, .int a] [(h0, .inr (10, [.ref (v 0), .ref (v 1), .ref (v 2), .ref (v 3), .ref (v 4), .int 0, .ref (v 5), .ref (v 6), .ref (v 7), .ref (v 8), .ref (v 9), .ref (v 10), .ref (v 11), .ref (v 12), .ref (v 13), .int 0])), (v 0, .inr (7, [.ref (v 14), .int 0]))] sz) (va_Qi (fun r (_ : Nat → Nat) => (r = (-1) ∧ (a < 0 ∨ 0 < a)) ∨ (r = a ∧ (¬ (a < 0 ∨ 0 < a)))) (gO G (va_A ([(h0, .inr (10, [.ref (v 0), .ref (v 1), .ref (v 2), .ref (v 3), .ref (v 4), .int 0, .ref (v 5), .ref (v 6), .ref (v 7), .ref (v 8), .ref (v 9), .ref (v 10), .ref (v 11), .ref (v 12), .ref (v 13), .int 0])), (v 0, .inr (7, [.ref (v 14), .int 0]))]) sz) (fun _ => [])) (va_A ([(h0, .inr (10, [.ref (v 0), .ref (v 1), .ref (v 2), .ref (v 3), .ref (v 4), .int 0, .ref (v 5), .ref (v 6), .ref (v 7), .ref (v 8), .ref (v 9), .ref (v 10), .ref (v 11), .ref (v 12), .ref (v 13), .int 0])), (v 0, .inr (7, [.ref (v 14), .int 0]))]) sz)) 0 0 (va_A ([(h0, .inr (10, [.ref (v 0), .ref (v 1), .ref (v 2), .ref (v 3), .ref (v 4), .int 0, .ref (v 5), .ref (v 6), .ref (v 7), .ref (v 8), .ref (v 9), .ref (v 10), .ref (v 11), .ref (v 12), .ref (v 13), .int 0])), (v 0, .inr (7, [.ref (v 14), .int 0]))]) sz) := by
  refine gz_met (cc := cX10_end) (maxL := 2) (ret := (some .int)) (by decide) rfl (Nat.le_of_ble_eq_true rfl) ?_
  intro p_ e_ s_ m below_ meth_ c_ ls hx hb hr hml hts hown hlocks hin hP hE hD hA hS
  generalize hAe : va_A ([(h0, .inr (10, [.ref (v 0), .ref (v 1), .ref (v 2), .ref (v 3), .ref (v 4), .int 0, .ref (v 5), .ref (v 6), .ref (v 7), .ref (v 8), .ref (v 9), .ref (v 10), .ref (v 11), .ref (v 12), .ref (v 13), .int 0])), (v 0, .inr (7, [.ref (v 14), .int 0]))]) sz = A at hD hA hS ⊢
  intro hl
  have hl : lv_has ls 2 [(0, .ref h0), (1, .int a)] := hl
  refine lv_iload_n hx hb dX10_end_0 rfl (lv_at hl 1 rfl) ?_
  refine lv_iconst (v := 0) hx hb dX10_end_1 (by decide) ?_
  refine lv_aload_n hx hb dX10_end_2 rfl (lv_at hl 0 rfl) ?_
  refine va_get (D := G) (ci := 10) (v := .ref (v 0)) (C := RX10) (T := TX10) (N := 16) hx hb hts j_c_X10_end_10 hown hE.K hP 0 rfl rfl 0 (by decide) (hts (.fieldLink RX10 10 "GossamerGate" "tape" "LGossamerGate$Tape;") (List.mem_cons_of_mem _ (List.mem_append_left _ (List.mem_of_getElem? (i := 0) rfl)))) (fun _ h9 => h9) rfl dX10_end_3 ?_
  refine va_get (D := G) (ci := 7) (v := .int 0) (C := RX7) (T := TX7) (N := 2) hx hb hts j_c_X10_end_7 hown hE.K hP 1 rfl rfl 1 (by decide) (hts (.fieldLink RX10 107 "GossamerGate$Tape" "length" "I") (List.mem_cons_of_mem _ (List.mem_append_left _ (List.mem_of_getElem? (i := 1) rfl)))) (fun _ h9 => h9) rfl dX10_end_6 ?_
  refine vp_callSi (W.runS (As := [.int a, .int 0, .int 0]) (rest := []) ⟨hx, hb, hml, hown, hts⟩ (c_X10_outside l G k sa a 0 0) (va_cwS 3 hts g_c_X10_end_110_c_X10_outside rfl rfl rfl (by decide +kernel) ⟨(Nat.le_of_ble_eq_true rfl), (Nat.le_of_ble_eq_true rfl)⟩) ⟨gR.bl, (gR.pre (wc := []) hE hP [] rfl)⟩ rfl rfl hl.1 rfl (lv_room (Nat.le_of_ble_eq_true rfl)) dX10_end_9 ⟨(Nat.le_of_ble_eq_true rfl), (Nat.le_of_ble_eq_true rfl)⟩) (fun r_1 hr_1 => ?_)
  rcases hr_1 with ⟨rfl, c_2⟩ | ⟨rfl, c_2⟩
  · refine lv_if_eq (tgt := 17) hx hb dX10_end_12 (by decide) (fun h9 => absurd h9 (by decide)) (fun _ => ?_)
    refine lv_iconst (v := (-1)) hx hb dX10_end_15 (by decide) ?_
    have hP9 := hP.sub (ws' := []) [] rfl
    have hD9 := hD.sub (ws' := []) [] (by decide) rfl
    exact W.iret (v := (-1)) hx hb hr (fun t ht hW => ⟨⟨(-1), (fun _ => 0), rfl, (Or.inl ⟨rfl, c_2⟩), by rw [ht]; exact hP9, hD9⟩, hS.F ht⟩) hS.2.2 dX10_end_16
  · refine lv_if_eq (tgt := 17) hx hb dX10_end_12 (by decide) (fun _ => ?_) (fun h9 => absurd h9 (by decide))
    refine lv_aload_n hx hb dX10_end_17 rfl (lv_at hl 0 rfl) ?_
    refine va_get (D := G) (ci := 10) (v := .ref (v 0)) (C := RX10) (T := TX10) (N := 16) hx hb hts j_c_X10_end_10 hown hE.K hP 0 rfl rfl 0 (by decide) (hts (.fieldLink RX10 10 "GossamerGate" "tape" "LGossamerGate$Tape;") (List.mem_cons_of_mem _ (List.mem_append_left _ (List.mem_of_getElem? (i := 0) rfl)))) (fun _ h9 => h9) rfl dX10_end_18 ?_
    refine lv_iload_n hx hb dX10_end_21 rfl (lv_at hl 1 rfl) ?_
    refine va_put (D := G) (ci := 7) (v := .int a) (ty := .int) (C := RX7) (T := TX7) (N := 2) hx hb hts j_c_X10_end_7 tyX7 tyX7_ok nmX7 hown hE.K hP hD hS 1 rfl rfl 1 (by decide) (hts (.fieldLink RX10 107 "GossamerGate$Tape" "length" "I") (List.mem_cons_of_mem _ (List.mem_append_left _ (List.mem_of_getElem? (i := 1) rfl)))) (fun _ h9 => h9) rfl (by decide +kernel) rfl rfl (Nat.le_of_ble_eq_true rfl) dX10_end_22 (fun H locs hP hD hS => ?_)
    have hP : va_P G vwCl [(h0, .inr (10, [.ref (v 0), .ref (v 1), .ref (v 2), .ref (v 3), .ref (v 4), .int 0, .ref (v 5), .ref (v 6), .ref (v 7), .ref (v 8), .ref (v 9), .ref (v 10), .ref (v 11), .ref (v 12), .ref (v 13), .int 0])), (v 0, .inr (7, [.ref (v 14), .int a]))] H := hP
    have hD : va_D A [(h0, .inr (10, [.ref (v 0), .ref (v 1), .ref (v 2), .ref (v 3), .ref (v 4), .int 0, .ref (v 5), .ref (v 6), .ref (v 7), .ref (v 8), .ref (v 9), .ref (v 10), .ref (v 11), .ref (v 12), .ref (v 13), .int 0])), (v 0, .inr (7, [.ref (v 14), .int a]))] := hD
    refine lv_iload_n hx hb dX10_end_25 rfl (lv_at hl 1 rfl) ?_
    have hP9 := hP.sub (ws' := []) [] rfl
    have hD9 := hD.sub (ws' := []) [] (by decide) rfl
    exact W.iret (v := a) hx hb hr (fun t ht hW => ⟨⟨a, (fun _ => 0), rfl, (Or.inr ⟨rfl, c_2⟩), by rw [ht]; exact hP9, hD9⟩, hS.F ht⟩) hS.2.2 dX10_end_26
set_option maxHeartbeats 4000000 in
set_option maxRecDepth 100000 in
theorem c_X10_force (l : Launch) (G : va_G) (k : Nat → ClassId) (sa : Nat → Nat) (sz : Nat) (h0 : Nat) (v : Nat → Nat) (w : Nat → Nat) (a : Int32) : Met l yX10_force vs_c_X10_force ({ frames := 1, cells := 0, slots := 0, locals := 22 } : Room) (gP G k sa [.ref h0, .int a] [(h0, .inr (10, [.ref (v 0), .ref (v 1), .ref (v 2), .ref (v 3), .ref (v 4), .int 0, .ref (v 5), .ref (v 6), .ref (v 7), .ref (v 8), .ref (v 9), .ref (v 10), .ref (v 11), .ref (v 12), .ref (v 13), .int 0])), (v 5, .inr (9, [.ref (w 0), .ref (w 1), .ref (w 2), .ref (w 3), .ref (w 4), .int 0, .int 0, .int (-1), .int 0]))] sz) (va_Qi (fun r (_ : Nat → Nat) => (r = (-2) ∧ (a < (-1) ∨ (-1) < a)) ∨ (r = (-1) ∧ (¬ (a < (-1) ∨ (-1) < a)))) (gO G (va_A ([(h0, .inr (10, [.ref (v 0), .ref (v 1), .ref (v 2), .ref (v 3), .ref (v 4), .int 0, .ref (v 5), .ref (v 6), .ref (v 7), .ref (v 8), .ref (v 9), .ref (v 10), .ref (v 11), .ref (v 12), .ref (v 13), .int 0])), (v 5, .inr (9, [.ref (w 0), .ref (w 1), .ref (w 2), .ref (w 3), .ref (w 4), .int 0, .int 0, .int (-1), .int 0]))]) sz) (fun _ => [])) (va_A ([(h0, .inr (10, [.ref (v 0), .ref (v 1), .ref (v 2), .ref (v 3), .ref (v 4), .int 0, .ref (v 5), .ref (v 6), .ref (v 7), .ref (v 8), .ref (v 9), .ref (v 10), .ref (v 11), .ref (v 12), .ref (v 13), .int 0])), (v 5, .inr (9, [.ref (w 0), .ref (w 1), .ref (w 2), .ref (w 3), .ref (w 4), .int 0, .int 0, .int (-1), .int 0]))]) sz)) 0 0 (va_A ([(h0, .inr (10, [.ref (v 0), .ref (v 1), .ref (v 2), .ref (v 3), .ref (v 4), .int 0, .ref (v 5), .ref (v 6), .ref (v 7), .ref (v 8), .ref (v 9), .ref (v 10), .ref (v 11), .ref (v 12), .ref (v 13), .int 0])), (v 5, .inr (9, [.ref (w 0), .ref (w 1), .ref (w 2), .ref (w 3), .ref (w 4), .int 0, .int 0, .int (-1), .int 0]))]) sz) := by
  refine gz_met (cc := cX10_force) (maxL := 3) (ret := (some .int)) (by decide) rfl (Nat.le_of_ble_eq_true rfl) ?_
  intro p_ e_ s_ m below_ meth_ c_ ls hx hb hr hml hts hown hlocks hin hP hE hD hA hS
  generalize hAe : va_A ([(h0, .inr (10, [.ref (v 0), .ref (v 1), .ref (v 2), .ref (v 3), .ref (v 4), .int 0, .ref (v 5), .ref (v 6), .ref (v 7), .ref (v 8), .ref (v 9), .ref (v 10), .ref (v 11), .ref (v 12), .ref (v 13), .int 0])), (v 5, .inr (9, [.ref (w 0), .ref (w 1), .ref (w 2), .ref (w 3), .ref (w 4), .int 0, .int 0, .int (-1), .int 0]))]) sz = A at hD hA hS ⊢
  intro hl
  have hl : lv_has ls 3 [(0, .ref h0), (1, .int a)] := hl
  refine lv_iload_n hx hb dX10_force_0 rfl (lv_at hl 1 rfl) ?_
  refine lv_iconst (v := (-1)) hx hb dX10_force_1 (by decide) ?_
  refine lv_aload_n hx hb dX10_force_2 rfl (lv_at hl 0 rfl) ?_
  refine va_get (D := G) (ci := 10) (v := .int 0) (C := RX10) (T := TX10) (N := 16) hx hb hts j_c_X10_force_10 hown hE.K hP 0 rfl rfl 5 (by decide) (hts (.fieldLink RX10 45 "GossamerGate" "ruleCount" "I") (List.mem_cons_of_mem _ (List.mem_append_left _ (List.mem_of_getElem? (i := 0) rfl)))) (fun _ h9 => h9) rfl dX10_force_3 ?_
  refine lv_iconst (v := 1) hx hb dX10_force_6 (by decide) ?_
  refine lv_isub hx hb dX10_force_7 ?_
  refine gz_ni (v := (-1)) (by decide) ?_
  refine vp_callSi (W.runS (As := [.int a, .int (-1), .int (-1)]) (rest := []) ⟨hx, hb, hml, hown, hts⟩ (c_X10_outside l G k sa a (-1) (-1)) (va_cwS 3 hts g_c_X10_force_110_c_X10_outside rfl rfl rfl (by decide +kernel) ⟨(Nat.le_of_ble_eq_true rfl), (Nat.le_of_ble_eq_true rfl)⟩) ⟨gR.bl, (gR.pre (wc := []) hE hP [] rfl)⟩ rfl rfl hl.1 rfl (lv_room (Nat.le_of_ble_eq_true rfl)) dX10_force_8 ⟨(Nat.le_of_ble_eq_true rfl), (Nat.le_of_ble_eq_true rfl)⟩) (fun r_1 hr_1 => ?_)
  rcases hr_1 with ⟨rfl, c_2⟩ | ⟨rfl, c_2⟩
  · refine lv_if_eq (tgt := 17) hx hb dX10_force_11 (by decide) (fun h9 => absurd h9 (by decide)) (fun _ => ?_)
    refine lv_bipush (v := (-2)) hx hb dX10_force_14 (by decide) ?_
    have hP9 := hP.sub (ws' := []) [] rfl
    have hD9 := hD.sub (ws' := []) [] (by decide) rfl
    exact W.iret (v := (-2)) hx hb hr (fun t ht hW => ⟨⟨(-2), (fun _ => 0), rfl, (Or.inl ⟨rfl, c_2⟩), by rw [ht]; exact hP9, hD9⟩, hS.F ht⟩) hS.2.2 dX10_force_16
  · refine lv_if_eq (tgt := 17) hx hb dX10_force_11 (by decide) (fun _ => ?_) (fun h9 => absurd h9 (by decide))
    refine lv_aload_n hx hb dX10_force_17 rfl (lv_at hl 0 rfl) ?_
    refine va_get (D := G) (ci := 10) (v := .ref (v 5)) (C := RX10) (T := TX10) (N := 16) hx hb hts j_c_X10_force_10 hown hE.K hP 0 rfl rfl 6 (by decide) (hts (.fieldLink RX10 52 "GossamerGate" "world" "LGossamerGate$World;") (List.mem_cons_of_mem _ (List.mem_append_left _ (List.mem_of_getElem? (i := 4) rfl)))) (fun _ h9 => h9) rfl dX10_force_18 ?_
    refine va_get (D := G) (ci := 9) (v := .int (-1)) (C := RX9) (T := TX9) (N := 9) hx hb hts j_c_X10_force_9 hown hE.K hP 1 rfl rfl 7 (by decide) (hts (.fieldLink RX10 136 "GossamerGate$World" "inForce" "I") (List.mem_cons_of_mem _ (List.mem_append_left _ (List.mem_of_getElem? (i := 5) rfl)))) (fun _ h9 => h9) rfl dX10_force_21 ?_
    refine lv_istore_n (lv' := [(2, .int (-1)), (0, .ref h0), (1, .int a)]) hx hb dX10_force_24 rfl hl (by decide) rfl (fun ls hl => ?_)
    refine lv_aload_n hx hb dX10_force_25 rfl (lv_at hl 1 rfl) ?_
    refine va_get (D := G) (ci := 10) (v := .ref (v 5)) (C := RX10) (T := TX10) (N := 16) hx hb hts j_c_X10_force_10 hown hE.K hP 0 rfl rfl 6 (by decide) (hts (.fieldLink RX10 52 "GossamerGate" "world" "LGossamerGate$World;") (List.mem_cons_of_mem _ (List.mem_append_left _ (List.mem_of_getElem? (i := 4) rfl)))) (fun _ h9 => h9) rfl dX10_force_26 ?_
    refine lv_iload_n hx hb dX10_force_29 rfl (lv_at hl 2 rfl) ?_
    refine va_put (D := G) (ci := 9) (v := .int a) (ty := .int) (C := RX9) (T := TX9) (N := 9) hx hb hts j_c_X10_force_9 tyX9 tyX9_ok nmX9 hown hE.K hP hD hS 1 rfl rfl 7 (by decide) (hts (.fieldLink RX10 136 "GossamerGate$World" "inForce" "I") (List.mem_cons_of_mem _ (List.mem_append_left _ (List.mem_of_getElem? (i := 5) rfl)))) (fun _ h9 => h9) rfl (by decide +kernel) rfl rfl (Nat.le_of_ble_eq_true rfl) dX10_force_30 (fun H locs hP hD hS => ?_)
    have hP : va_P G vwCl [(h0, .inr (10, [.ref (v 0), .ref (v 1), .ref (v 2), .ref (v 3), .ref (v 4), .int 0, .ref (v 5), .ref (v 6), .ref (v 7), .ref (v 8), .ref (v 9), .ref (v 10), .ref (v 11), .ref (v 12), .ref (v 13), .int 0])), (v 5, .inr (9, [.ref (w 0), .ref (w 1), .ref (w 2), .ref (w 3), .ref (w 4), .int 0, .int 0, .int a, .int 0]))] H := hP
    have hD : va_D A [(h0, .inr (10, [.ref (v 0), .ref (v 1), .ref (v 2), .ref (v 3), .ref (v 4), .int 0, .ref (v 5), .ref (v 6), .ref (v 7), .ref (v 8), .ref (v 9), .ref (v 10), .ref (v 11), .ref (v 12), .ref (v 13), .int 0])), (v 5, .inr (9, [.ref (w 0), .ref (w 1), .ref (w 2), .ref (w 3), .ref (w 4), .int 0, .int 0, .int a, .int 0]))] := hD
    refine lv_iload_n hx hb dX10_force_33 rfl (lv_at hl 0 rfl) ?_
    have hP9 := hP.sub (ws' := []) [] rfl
    have hD9 := hD.sub (ws' := []) [] (by decide) rfl
    exact W.iret (v := (-1)) hx hb hr (fun t ht hW => ⟨⟨(-1), (fun _ => 0), rfl, (Or.inr ⟨rfl, c_2⟩), by rw [ht]; exact hP9, hD9⟩, hS.F ht⟩) hS.2.2 dX10_force_34
set_option maxHeartbeats 4000000 in
set_option maxRecDepth 100000 in
theorem c_X10_seed (l : Launch) (G : va_G) (k : Nat → ClassId) (sa : Nat → Nat) (sz : Nat) (h0 : Nat) (v : Nat → Nat) (w : Nat → Nat) (a : Int32) : Met l yX10_seed vs_c_X10_seed ({ frames := 0, cells := 0, slots := 0, locals := 0 } : Room) (gP G k sa [.ref h0, .int a] [(h0, .inr (10, [.ref (v 0), .ref (v 1), .ref (v 2), .ref (v 3), .ref (v 4), .int 0, .ref (v 5), .ref (v 6), .ref (v 7), .ref (v 8), .ref (v 9), .ref (v 10), .ref (v 11), .ref (v 12), .ref (v 13), .int 0])), (v 5, .inr (9, [.ref (w 0), .ref (w 1), .ref (w 2), .ref (w 3), .ref (w 4), .int 0, .int 0, .int (-1), .int 0]))] sz) (va_Qi (fun r (_ : Nat → Nat) => (r = 0 ∧ (0 ≤ a)) ∨ (r = (-1) ∧ (¬ 0 ≤ a))) (gO G (va_A ([(h0, .inr (10, [.ref (v 0), .ref (v 1), .ref (v 2), .ref (v 3), .ref (v 4), .int 0, .ref (v 5), .ref (v 6), .ref (v 7), .ref (v 8), .ref (v 9), .ref (v 10), .ref (v 11), .ref (v 12), .ref (v 13), .int 0])), (v 5, .inr (9, [.ref (w 0), .ref (w 1), .ref (w 2), .ref (w 3), .ref (w 4), .int 0, .int 0, .int (-1), .int 0]))]) sz) (fun _ => [])) (va_A ([(h0, .inr (10, [.ref (v 0), .ref (v 1), .ref (v 2), .ref (v 3), .ref (v 4), .int 0, .ref (v 5), .ref (v 6), .ref (v 7), .ref (v 8), .ref (v 9), .ref (v 10), .ref (v 11), .ref (v 12), .ref (v 13), .int 0])), (v 5, .inr (9, [.ref (w 0), .ref (w 1), .ref (w 2), .ref (w 3), .ref (w 4), .int 0, .int 0, .int (-1), .int 0]))]) sz)) 0 0 (va_A ([(h0, .inr (10, [.ref (v 0), .ref (v 1), .ref (v 2), .ref (v 3), .ref (v 4), .int 0, .ref (v 5), .ref (v 6), .ref (v 7), .ref (v 8), .ref (v 9), .ref (v 10), .ref (v 11), .ref (v 12), .ref (v 13), .int 0])), (v 5, .inr (9, [.ref (w 0), .ref (w 1), .ref (w 2), .ref (w 3), .ref (w 4), .int 0, .int 0, .int (-1), .int 0]))]) sz) := by
  refine gz_met (cc := cX10_seed) (maxL := 3) (ret := (some .int)) (by decide) rfl (Nat.le_of_ble_eq_true rfl) ?_
  intro p_ e_ s_ m below_ meth_ c_ ls hx hb hr hml hts hown hlocks hin hP hE hD hA hS
  generalize hAe : va_A ([(h0, .inr (10, [.ref (v 0), .ref (v 1), .ref (v 2), .ref (v 3), .ref (v 4), .int 0, .ref (v 5), .ref (v 6), .ref (v 7), .ref (v 8), .ref (v 9), .ref (v 10), .ref (v 11), .ref (v 12), .ref (v 13), .int 0])), (v 5, .inr (9, [.ref (w 0), .ref (w 1), .ref (w 2), .ref (w 3), .ref (w 4), .int 0, .int 0, .int (-1), .int 0]))]) sz = A at hD hA hS ⊢
  intro hl
  have hl : lv_has ls 3 [(0, .ref h0), (1, .int a)] := hl
  refine lv_iload_n hx hb dX10_seed_0 rfl (lv_at hl 1 rfl) ?_
  refine lv_if_ge (tgt := 6) hx hb dX10_seed_1 (by decide) (fun c_1 => ?_) (fun c_1 => ?_)
  · refine lv_aload_n hx hb dX10_seed_6 rfl (lv_at hl 0 rfl) ?_
    refine va_get (D := G) (ci := 10) (v := .ref (v 5)) (C := RX10) (T := TX10) (N := 16) hx hb hts j_c_X10_seed_10 hown hE.K hP 0 rfl rfl 6 (by decide) (hts (.fieldLink RX10 52 "GossamerGate" "world" "LGossamerGate$World;") (List.mem_cons_of_mem _ (List.mem_append_left _ (List.mem_of_getElem? (i := 0) rfl)))) (fun _ h9 => h9) rfl dX10_seed_7 ?_
    refine va_get (D := G) (ci := 9) (v := .int 0) (C := RX9) (T := TX9) (N := 9) hx hb hts j_c_X10_seed_9 hown hE.K hP 1 rfl rfl 6 (by decide) (hts (.fieldLink RX10 207 "GossamerGate$World" "x" "I") (List.mem_cons_of_mem _ (List.mem_append_left _ (List.mem_of_getElem? (i := 1) rfl)))) (fun _ h9 => h9) rfl dX10_seed_10 ?_
    refine lv_istore_n (lv' := [(2, .int 0), (0, .ref h0), (1, .int a)]) hx hb dX10_seed_13 rfl hl (by decide) rfl (fun ls hl => ?_)
    refine lv_aload_n hx hb dX10_seed_14 rfl (lv_at hl 1 rfl) ?_
    refine va_get (D := G) (ci := 10) (v := .ref (v 5)) (C := RX10) (T := TX10) (N := 16) hx hb hts j_c_X10_seed_10 hown hE.K hP 0 rfl rfl 6 (by decide) (hts (.fieldLink RX10 52 "GossamerGate" "world" "LGossamerGate$World;") (List.mem_cons_of_mem _ (List.mem_append_left _ (List.mem_of_getElem? (i := 0) rfl)))) (fun _ h9 => h9) rfl dX10_seed_15 ?_
    refine lv_iload_n hx hb dX10_seed_18 rfl (lv_at hl 2 rfl) ?_
    refine va_put (D := G) (ci := 9) (v := .int a) (ty := .int) (C := RX9) (T := TX9) (N := 9) hx hb hts j_c_X10_seed_9 tyX9 tyX9_ok nmX9 hown hE.K hP hD hS 1 rfl rfl 6 (by decide) (hts (.fieldLink RX10 207 "GossamerGate$World" "x" "I") (List.mem_cons_of_mem _ (List.mem_append_left _ (List.mem_of_getElem? (i := 1) rfl)))) (fun _ h9 => h9) rfl (by decide +kernel) rfl rfl (Nat.le_of_ble_eq_true rfl) dX10_seed_19 (fun H locs hP hD hS => ?_)
    have hP : va_P G vwCl [(h0, .inr (10, [.ref (v 0), .ref (v 1), .ref (v 2), .ref (v 3), .ref (v 4), .int 0, .ref (v 5), .ref (v 6), .ref (v 7), .ref (v 8), .ref (v 9), .ref (v 10), .ref (v 11), .ref (v 12), .ref (v 13), .int 0])), (v 5, .inr (9, [.ref (w 0), .ref (w 1), .ref (w 2), .ref (w 3), .ref (w 4), .int 0, .int a, .int (-1), .int 0]))] H := hP
    have hD : va_D A [(h0, .inr (10, [.ref (v 0), .ref (v 1), .ref (v 2), .ref (v 3), .ref (v 4), .int 0, .ref (v 5), .ref (v 6), .ref (v 7), .ref (v 8), .ref (v 9), .ref (v 10), .ref (v 11), .ref (v 12), .ref (v 13), .int 0])), (v 5, .inr (9, [.ref (w 0), .ref (w 1), .ref (w 2), .ref (w 3), .ref (w 4), .int 0, .int a, .int (-1), .int 0]))] := hD
    refine lv_iload_n hx hb dX10_seed_22 rfl (lv_at hl 0 rfl) ?_
    have hP9 := hP.sub (ws' := []) [] rfl
    have hD9 := hD.sub (ws' := []) [] (by decide) rfl
    exact W.iret (v := 0) hx hb hr (fun t ht hW => ⟨⟨0, (fun _ => 0), rfl, (Or.inl ⟨rfl, c_1⟩), by rw [ht]; exact hP9, hD9⟩, hS.F ht⟩) hS.2.2 dX10_seed_23
  · refine lv_iconst (v := (-1)) hx hb dX10_seed_4 (by decide) ?_
    have hP9 := hP.sub (ws' := []) [] rfl
    have hD9 := hD.sub (ws' := []) [] (by decide) rfl
    exact W.iret (v := (-1)) hx hb hr (fun t ht hW => ⟨⟨(-1), (fun _ => 0), rfl, (Or.inr ⟨rfl, c_1⟩), by rw [ht]; exact hP9, hD9⟩, hS.F ht⟩) hS.2.2 dX10_seed_5
set_option maxHeartbeats 4000000 in
set_option maxRecDepth 100000 in
theorem c_X10_note (l : Launch) (G : va_G) (k : Nat → ClassId) (sa : Nat → Nat) (sz : Nat) (h0 : Nat) (v : Nat → Nat) (w : Nat → Nat) (a : Int32) (b : Int32) (c : Int32) : Met l yX10_note vs_c_X10_note ({ frames := 2, cells := 0, slots := 0, locals := 43 } : Room) (gP G k sa [.ref h0, .int a, .int b, .int c] [(h0, .inr (10, [.ref (v 0), .ref (v 1), .ref (v 2), .ref (v 3), .ref (v 4), .int 0, .ref (v 5), .ref (v 6), .ref (v 7), .ref (v 8), .ref (v 9), .ref (v 10), .ref (v 11), .ref (v 12), .ref (v 13), .int 0])), (v 5, .inr (9, [.ref (w 0), .ref (w 1), .ref (w 2), .ref (w 3), .ref (w 4), .int 0, .int 0, .int (-1), .int 0])), (w 1, .inr (2, [.int 0, .int 0, .long 0, .ref (w 13), .ref (w 14), .ref (w 15), .ref (w 16)]))] sz) (va_Qi (fun r (_ : Nat → Nat) => (r = 0 ∧ (a = (-1))) ∨ (r = (-2) ∧ (¬ a = (-1)))) (gO G (va_A ([(h0, .inr (10, [.ref (v 0), .ref (v 1), .ref (v 2), .ref (v 3), .ref (v 4), .int 0, .ref (v 5), .ref (v 6), .ref (v 7), .ref (v 8), .ref (v 9), .ref (v 10), .ref (v 11), .ref (v 12), .ref (v 13), .int 0])), (v 5, .inr (9, [.ref (w 0), .ref (w 1), .ref (w 2), .ref (w 3), .ref (w 4), .int 0, .int 0, .int (-1), .int 0])), (w 1, .inr (2, [.int 0, .int 0, .long 0, .ref (w 13), .ref (w 14), .ref (w 15), .ref (w 16)]))]) sz) (fun _ => [])) (va_A ([(h0, .inr (10, [.ref (v 0), .ref (v 1), .ref (v 2), .ref (v 3), .ref (v 4), .int 0, .ref (v 5), .ref (v 6), .ref (v 7), .ref (v 8), .ref (v 9), .ref (v 10), .ref (v 11), .ref (v 12), .ref (v 13), .int 0])), (v 5, .inr (9, [.ref (w 0), .ref (w 1), .ref (w 2), .ref (w 3), .ref (w 4), .int 0, .int 0, .int (-1), .int 0])), (w 1, .inr (2, [.int 0, .int 0, .long 0, .ref (w 13), .ref (w 14), .ref (w 15), .ref (w 16)]))]) sz)) 0 0 (va_A ([(h0, .inr (10, [.ref (v 0), .ref (v 1), .ref (v 2), .ref (v 3), .ref (v 4), .int 0, .ref (v 5), .ref (v 6), .ref (v 7), .ref (v 8), .ref (v 9), .ref (v 10), .ref (v 11), .ref (v 12), .ref (v 13), .int 0])), (v 5, .inr (9, [.ref (w 0), .ref (w 1), .ref (w 2), .ref (w 3), .ref (w 4), .int 0, .int 0, .int (-1), .int 0])), (w 1, .inr (2, [.int 0, .int 0, .long 0, .ref (w 13), .ref (w 14), .ref (w 15), .ref (w 16)]))]) sz) := by
  refine gz_met (cc := cX10_note) (maxL := 4) (ret := (some .int)) (by decide) rfl (Nat.le_of_ble_eq_true rfl) ?_
  intro p_ e_ s_ m below_ meth_ c_ ls hx hb hr hml hts hown hlocks hin hP hE hD hA hS
  generalize hAe : va_A ([(h0, .inr (10, [.ref (v 0), .ref (v 1), .ref (v 2), .ref (v 3), .ref (v 4), .int 0, .ref (v 5), .ref (v 6), .ref (v 7), .ref (v 8), .ref (v 9), .ref (v 10), .ref (v 11), .ref (v 12), .ref (v 13), .int 0])), (v 5, .inr (9, [.ref (w 0), .ref (w 1), .ref (w 2), .ref (w 3), .ref (w 4), .int 0, .int 0, .int (-1), .int 0])), (w 1, .inr (2, [.int 0, .int 0, .long 0, .ref (w 13), .ref (w 14), .ref (w 15), .ref (w 16)]))]) sz = A at hD hA hS ⊢
  intro hl
  have hl : lv_has ls 4 [(0, .ref h0), (1, .int a), (2, .int b), (3, .int c)] := hl
  refine lv_iload_n hx hb dX10_note_0 rfl (lv_at hl 1 rfl) ?_
  refine lv_iconst (v := (-1)) hx hb dX10_note_1 (by decide) ?_
  refine lv_icmp_ne (tgt := 15) hx hb dX10_note_2 (by decide) (fun c_1 => ?_) (fun c_1 => ?_)
  · refine lv_iload_n hx hb dX10_note_15 rfl (lv_at hl 1 rfl) ?_
    refine lv_iconst (v := 0) hx hb dX10_note_16 (by decide) ?_
    refine lv_bipush (v := 60) hx hb dX10_note_17 (by decide) ?_
    refine vp_callSi (W.runS (As := [.int a, .int 0, .int 60]) (rest := []) ⟨hx, hb, hml, hown, hts⟩ (c_X10_outside l G k sa a 0 60) (va_cwS 3 hts g_c_X10_note_110_c_X10_outside rfl rfl rfl (by decide +kernel) ⟨(Nat.le_of_ble_eq_true rfl), (Nat.le_of_ble_eq_true rfl)⟩) ⟨gR.bl, (gR.pre (wc := []) hE hP [] rfl)⟩ rfl rfl hl.1 rfl (lv_room (Nat.le_of_ble_eq_true rfl)) dX10_note_19 ⟨(Nat.le_of_ble_eq_true rfl), (Nat.le_of_ble_eq_true rfl)⟩) (fun r_2 hr_2 => ?_)
    rcases hr_2 with ⟨rfl, c_3⟩ | ⟨rfl, c_3⟩
    · refine lv_if_ne (tgt := 45) hx hb dX10_note_22 (by decide) (fun _ => ?_) (fun h9 => absurd h9 (by decide))
      refine lv_bipush (v := (-2)) hx hb dX10_note_45 (by decide) ?_
      have hP9 := hP.sub (ws' := []) [] rfl
      have hD9 := hD.sub (ws' := []) [] (by decide) rfl
      exact W.iret (v := (-2)) hx hb hr (fun t ht hW => ⟨⟨(-2), (fun _ => 0), rfl, (Or.inr ⟨rfl, c_1⟩), by rw [ht]; exact hP9, hD9⟩, hS.F ht⟩) hS.2.2 dX10_note_47
    · refine lv_if_ne (tgt := 45) hx hb dX10_note_22 (by decide) (fun h9 => absurd h9 (by decide)) (fun _ => ?_)
      refine lv_aload_n hx hb dX10_note_25 rfl (lv_at hl 0 rfl) ?_
      refine lv_iload_n hx hb dX10_note_26 rfl (lv_at hl 2 rfl) ?_
      refine vp_callSi (W.runV (As := [.int b]) (rest := []) ⟨hx, hb, hml, hown, hts⟩ (c_X10_isPerson l G k sa h0 v w b) (cwV 1 hts g_c_X10_note_139_c_X10_isPerson rfl rfl rfl (by decide +kernel) ⟨(Nat.le_of_ble_eq_true rfl), (Nat.le_of_ble_eq_true rfl)⟩) ⟨gR.bl, va_recv hE.K hP (ci := 10) (q0 := 0) rfl rfl, (gR.pre (wc := [(h0, .inr (10, [.ref (v 0), .ref (v 1), .ref (v 2), .ref (v 3), .ref (v 4), .int 0, .ref (v 5), .ref (v 6), .ref (v 7), .ref (v 8), .ref (v 9), .ref (v 10), .ref (v 11), .ref (v 12), .ref (v 13), .int 0])), (v 5, .inr (9, [.ref (w 0), .ref (w 1), .ref (w 2), .ref (w 3), .ref (w 4), .int 0, .int 0, .int (-1), .int 0])), (w 1, .inr (2, [.int 0, .int 0, .long 0, .ref (w 13), .ref (w 14), .ref (w 15), .ref (w 16)]))]) hE hP [0, 1, 2] rfl)⟩ rfl rfl hl.1 rfl (lv_room (Nat.le_of_ble_eq_true rfl)) dX10_note_27 ⟨(Nat.le_of_ble_eq_true rfl), (Nat.le_of_ble_eq_true rfl)⟩) (fun r_4 hr_4 => ?_)
      obtain rfl : r_4 = 0 := hr_4
      refine lv_if_eq (tgt := 45) hx hb dX10_note_30 (by decide) (fun _ => ?_) (fun h9 => absurd h9 (by decide))
      refine lv_bipush (v := (-2)) hx hb dX10_note_45 (by decide) ?_
      have hP9 := hP.sub (ws' := []) [] rfl
      have hD9 := hD.sub (ws' := []) [] (by decide) rfl
      exact W.iret (v := (-2)) hx hb hr (fun t ht hW => ⟨⟨(-2), (fun _ => 0), rfl, (Or.inr ⟨rfl, c_1⟩), by rw [ht]; exact hP9, hD9⟩, hS.F ht⟩) hS.2.2 dX10_note_47
  · refine lv_aload_n hx hb dX10_note_5 rfl (lv_at hl 0 rfl) ?_
    refine va_get (D := G) (ci := 10) (v := .ref (v 5)) (C := RX10) (T := TX10) (N := 16) hx hb hts j_c_X10_note_10 hown hE.K hP 0 rfl rfl 6 (by decide) (hts (.fieldLink RX10 52 "GossamerGate" "world" "LGossamerGate$World;") (List.mem_cons_of_mem _ (List.mem_append_left _ (List.mem_of_getElem? (i := 6) rfl)))) (fun _ h9 => h9) rfl dX10_note_6 ?_
    refine lv_iconst (v := 0) hx hb dX10_note_9 (by decide) ?_
    refine va_put (D := G) (ci := 9) (v := .int 0) (ty := .int) (C := RX9) (T := TX9) (N := 9) hx hb hts j_c_X10_note_9 tyX9 tyX9_ok nmX9 hown hE.K hP hD hS 1 rfl rfl 5 (by decide) (hts (.fieldLink RX10 201 "GossamerGate$World" "notes" "I") (List.mem_cons_of_mem _ (List.mem_append_left _ (List.mem_of_getElem? (i := 7) rfl)))) (fun _ h9 => h9) rfl (by decide +kernel) rfl rfl (Nat.le_of_ble_eq_true rfl) dX10_note_10 (fun H locs hP hD hS => ?_)
    have hP : va_P G vwCl [(h0, .inr (10, [.ref (v 0), .ref (v 1), .ref (v 2), .ref (v 3), .ref (v 4), .int 0, .ref (v 5), .ref (v 6), .ref (v 7), .ref (v 8), .ref (v 9), .ref (v 10), .ref (v 11), .ref (v 12), .ref (v 13), .int 0])), (v 5, .inr (9, [.ref (w 0), .ref (w 1), .ref (w 2), .ref (w 3), .ref (w 4), .int 0, .int 0, .int (-1), .int 0])), (w 1, .inr (2, [.int 0, .int 0, .long 0, .ref (w 13), .ref (w 14), .ref (w 15), .ref (w 16)]))] H := hP
    have hD : va_D A [(h0, .inr (10, [.ref (v 0), .ref (v 1), .ref (v 2), .ref (v 3), .ref (v 4), .int 0, .ref (v 5), .ref (v 6), .ref (v 7), .ref (v 8), .ref (v 9), .ref (v 10), .ref (v 11), .ref (v 12), .ref (v 13), .int 0])), (v 5, .inr (9, [.ref (w 0), .ref (w 1), .ref (w 2), .ref (w 3), .ref (w 4), .int 0, .int 0, .int (-1), .int 0])), (w 1, .inr (2, [.int 0, .int 0, .long 0, .ref (w 13), .ref (w 14), .ref (w 15), .ref (w 16)]))] := hD
    refine lv_iconst (v := 0) hx hb dX10_note_13 (by decide) ?_
    have hP9 := hP.sub (ws' := []) [] rfl
    have hD9 := hD.sub (ws' := []) [] (by decide) rfl
    exact W.iret (v := 0) hx hb hr (fun t ht hW => ⟨⟨0, (fun _ => 0), rfl, (Or.inl ⟨rfl, c_1⟩), by rw [ht]; exact hP9, hD9⟩, hS.F ht⟩) hS.2.2 dX10_note_14
