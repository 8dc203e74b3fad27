set_option maxHeartbeats 4000000 in
set_option maxRecDepth 100000 in
theorem s_X10_outside2 (l : Launch) (G : va_G) (k : Nat → ClassId) (sa : Nat → Nat) (n : Int32) (lo : Int32) (hi : Int32) : Met l yX10_outside vs_s_X10_outside2 ({ frames := 0, cells := 0, slots := 0, locals := 0 } : Room) (gR G k sa [.int n, .int lo, .int hi] []) (vp_Si (fun r => (r = 1 ∧ ¬ (lo ≤ n ∧ n ≤ hi)) ∨ (r = 0 ∧ lo ≤ n ∧ n ≤ hi))) 0 0 (fun _ => False) := by
  refine gz_metR (cc := cX10_outside) (maxL := 3) (ret := (some .boolean)) (by decide) rfl (Nat.le_of_ble_eq_true rfl) ?_
  intro p_ e_ s_ m below_ meth_ c_ ls hx hb hr hml hts hown hlocks hP hE hZ hS hl
  have hl : lv_has ls 3 [(0, .int n), (1, .int lo), (2, .int hi)] := hl
  refine lv_iload_n hx hb dX10_outside_0 rfl (lv_at hl 0 rfl) ?_
  refine lv_iload_n hx hb dX10_outside_1 rfl (lv_at hl 1 rfl) ?_
  refine lv_icmp_lt (tgt := 10) hx hb dX10_outside_2 (by decide) (fun c_2 => ?_) (fun c_2 => ?_)
  · have h2_n : gIv (-2147483648) 2147483646 n := gIv_lt_l (gIv_any n) (gIv_any lo) c_2 (by decide)
    have h2_lo : gIv (-2147483647) 2147483647 lo := gIv_lt_r (gIv_any n) (gIv_any lo) c_2 (by decide)
    refine lv_iconst (v := 1) hx hb dX10_outside_10 (by decide) ?_
    refine lv_goto (tgt := 15) hx hb dX10_outside_11 (by decide) ?_
    exact W.zret (v := 1) hx hb hr (by decide) (fun t ht hW => ⟨1, rfl, (Or.inl ⟨rfl, fun q => absurd q.1 (Int32.not_le.mpr c_2)⟩), ht⟩) (fun _ h9 => absurd h9 List.not_mem_nil) dX10_outside_15
  · refine lv_iload_n hx hb dX10_outside_5 rfl (lv_at hl 0 rfl) ?_
    refine lv_iload_n hx hb dX10_outside_6 rfl (lv_at hl 2 rfl) ?_
    refine lv_icmp_le (tgt := 14) hx hb dX10_outside_7 (by decide) (fun c_7 => ?_) (fun c_7 => ?_)
    · refine lv_iconst (v := 0) hx hb dX10_outside_14 (by decide) ?_
      exact W.zret (v := 0) hx hb hr (by decide) (fun t ht hW => ⟨0, rfl, (Or.inr ⟨rfl, gz_nlt c_2, c_7⟩), ht⟩) (fun _ h9 => absurd h9 List.not_mem_nil) dX10_outside_15
    · have h7_hi : gIv (-2147483648) 2147483646 hi := gIv_lt_l (gIv_any hi) (gIv_any n) (gz_nle c_7) (by decide)
      have h7_n : gIv (-2147483647) 2147483647 n := gIv_lt_r (gIv_any hi) (gIv_any n) (gz_nle c_7) (by decide)
      refine lv_iconst (v := 1) hx hb dX10_outside_10 (by decide) ?_
      refine lv_goto (tgt := 15) hx hb dX10_outside_11 (by decide) ?_
      exact W.zret (v := 1) hx hb hr (by decide) (fun t ht hW => ⟨1, rfl, (Or.inl ⟨rfl, fun q => absurd q.2 c_7⟩), ht⟩) (fun _ h9 => absurd h9 List.not_mem_nil) dX10_outside_15
set_option maxHeartbeats 4000000 in
set_option maxRecDepth 100000 in
theorem s_X10_seed_p (l : Launch) (G : va_G) (k : Nat → ClassId) (sa : Nat → Nat) (sz : Nat) (g : Nat) (tp : Nat) (cr : Nat) (rr : Nat) (dr : Nat) (ru : Nat) (g_rc : Int32) (w : Nat) (w_l : Nat) (w_d : Nat) (w_nh : Nat) (w_np : Nat) (w_nc : Nat) (w_no : Int32) (w_x : Int32) (w_if : Int32) (w_ma : Int32) (im : Nat) (h : Nat) (ho : Nat) (tr : Nat) (rk : Nat) (g1 : Nat) (g2 : Nat) (sp : Nat) (g_sr : Int32) (a : Int32) (h_g_rc : gIv 0 6 g_rc) (h_w_no : gIv 0 10 w_no) (h_w_ma : gIv 0 1 w_ma) (h_g_sr : gIv 0 7 g_sr) (h_a : gIv 0 2147483647 a) : Met l yX10_seed vs_s_X10_seed_p ({ frames := 0, cells := 0, slots := 0, locals := 0 } : Room) (gP G k sa [.ref g, .int a] [(g, .inr (10, [.ref tp, .ref cr, .ref rr, .ref dr, .ref ru, .int g_rc, .ref w, .ref im, .ref h, .ref ho, .ref tr, .ref rk, .ref g1, .ref g2, .ref sp, .int g_sr])), (w, .inr (9, [.ref w_l, .ref w_d, .ref w_nh, .ref w_np, .ref w_nc, .int w_no, .int w_x, .int w_if, .int w_ma]))] sz) (va_Qi (fun r (u : gS) => ((r = w_x ∧ True)) ∧ True) (gO G (va_A [(g, .inr (10, [.ref tp, .ref cr, .ref rr, .ref dr, .ref ru, .int g_rc, .ref w, .ref im, .ref h, .ref ho, .ref tr, .ref rk, .ref g1, .ref g2, .ref sp, .int g_sr])), (w, .inr (9, [.ref w_l, .ref w_d, .ref w_nh, .ref w_np, .ref w_nc, .int w_no, .int w_x, .int w_if, .int w_ma]))] sz) (fun u : gS => [(g, .inr (10, [.ref tp, .ref cr, .ref rr, .ref dr, .ref ru, .int g_rc, .ref w, .ref im, .ref h, .ref ho, .ref tr, .ref rk, .ref g1, .ref g2, .ref sp, .int g_sr])), (w, .inr (9, [.ref w_l, .ref w_d, .ref w_nh, .ref w_np, .ref w_nc, .int w_no, .int a, .int w_if, .int w_ma]))])) (va_A [(g, .inr (10, [.ref tp, .ref cr, .ref rr, .ref dr, .ref ru, .int g_rc, .ref w, .ref im, .ref h, .ref ho, .ref tr, .ref rk, .ref g1, .ref g2, .ref sp, .int g_sr])), (w, .inr (9, [.ref w_l, .ref w_d, .ref w_nh, .ref w_np, .ref w_nc, .int w_no, .int w_x, .int w_if, .int w_ma]))] sz)) 0 0 (va_A [(g, .inr (10, [.ref tp, .ref cr, .ref rr, .ref dr, .ref ru, .int g_rc, .ref w, .ref im, .ref h, .ref ho, .ref tr, .ref rk, .ref g1, .ref g2, .ref sp, .int g_sr])), (w, .inr (9, [.ref w_l, .ref w_d, .ref w_nh, .ref w_np, .ref w_nc, .int w_no, .int w_x, .int w_if, .int w_ma]))] sz) := by
  refine gz_met (cc := cX10_seed) (maxL := 3) (ret := (some .int)) (by decide) rfl (Nat.le_of_ble_eq_true rfl) ?_
  intro p_ e_ s_ m below_ meth_ c_ ls hx hb hr hml hts hown hlocks hin hP hE hZ hD hA hS
  generalize hAe : va_A [(g, .inr (10, [.ref tp, .ref cr, .ref rr, .ref dr, .ref ru, .int g_rc, .ref w, .ref im, .ref h, .ref ho, .ref tr, .ref rk, .ref g1, .ref g2, .ref sp, .int g_sr])), (w, .inr (9, [.ref w_l, .ref w_d, .ref w_nh, .ref w_np, .ref w_nc, .int w_no, .int w_x, .int w_if, .int w_ma]))] sz = A at hZ hD hA hS ⊢
  intro hl
  have hl : lv_has ls 3 [(0, .ref g), (1, .int a)] := hl
  refine lv_iload_n hx hb dX10_seed_0 rfl (lv_at hl 1 rfl) ?_
  refine lv_if_ge (tgt := 6) hx hb dX10_seed_1 (by decide) (fun c_1 => ?_) (fun c_1 => ?_)
  · refine lv_aload_n hx hb dX10_seed_6 rfl (lv_at hl 0 rfl) ?_
    refine va_get (D := G) (ci := 10) (v := .ref w) (C := RX10) (T := TX10) (N := 16) hx hb hts j_s_X10_seed_p_10 hown hE.K hP 0 rfl rfl 6 (by decide) (hts (.fieldLink RX10 52 "GossamerGate" "world" "LGossamerGate$World;") (List.mem_cons_of_mem _ (List.mem_append_left _ (List.mem_of_getElem? (i := 0) rfl)))) (fun _ h9 => h9) rfl dX10_seed_7 ?_
    refine va_get (D := G) (ci := 9) (v := .int w_x) (C := RX9) (T := TX9) (N := 9) hx hb hts j_s_X10_seed_p_9 hown hE.K hP 1 rfl rfl 6 (by decide) (hts (.fieldLink RX10 207 "GossamerGate$World" "x" "I") (List.mem_cons_of_mem _ (List.mem_append_left _ (List.mem_of_getElem? (i := 1) rfl)))) (fun _ h9 => h9) rfl dX10_seed_10 ?_
    refine lv_istore_n (lv' := [(2, .int w_x), (0, .ref g), (1, .int a)]) hx hb dX10_seed_13 rfl hl (by decide) rfl (fun ls hl => ?_)
    refine lv_aload_n hx hb dX10_seed_14 rfl (lv_at hl 1 rfl) ?_
    refine va_get (D := G) (ci := 10) (v := .ref w) (C := RX10) (T := TX10) (N := 16) hx hb hts j_s_X10_seed_p_10 hown hE.K hP 0 rfl rfl 6 (by decide) (hts (.fieldLink RX10 52 "GossamerGate" "world" "LGossamerGate$World;") (List.mem_cons_of_mem _ (List.mem_append_left _ (List.mem_of_getElem? (i := 0) rfl)))) (fun _ h9 => h9) rfl dX10_seed_15 ?_
    refine lv_iload_n hx hb dX10_seed_18 rfl (lv_at hl 2 rfl) ?_
    refine va_put (D := G) (ci := 9) (v := .int a) (ty := .int) (C := RX9) (T := TX9) (N := 9) hx hb hts j_s_X10_seed_p_9 tyX9 tyX9_ok nmX9 hown hE.K hP hD hS 1 rfl rfl 6 (by decide) (hts (.fieldLink RX10 207 "GossamerGate$World" "x" "I") (List.mem_cons_of_mem _ (List.mem_append_left _ (List.mem_of_getElem? (i := 1) rfl)))) (fun _ h9 => h9) rfl (by decide +kernel) rfl rfl (Nat.le_of_ble_eq_true rfl) dX10_seed_19 (fun H locs hP hD hS => ?_)
    have hP : va_P G vwCl [(g, .inr (10, [.ref tp, .ref cr, .ref rr, .ref dr, .ref ru, .int g_rc, .ref w, .ref im, .ref h, .ref ho, .ref tr, .ref rk, .ref g1, .ref g2, .ref sp, .int g_sr])), (w, .inr (9, [.ref w_l, .ref w_d, .ref w_nh, .ref w_np, .ref w_nc, .int w_no, .int a, .int w_if, .int w_ma]))] H := hP
    have hD : va_D A [(g, .inr (10, [.ref tp, .ref cr, .ref rr, .ref dr, .ref ru, .int g_rc, .ref w, .ref im, .ref h, .ref ho, .ref tr, .ref rk, .ref g1, .ref g2, .ref sp, .int g_sr])), (w, .inr (9, [.ref w_l, .ref w_d, .ref w_nh, .ref w_np, .ref w_nc, .int w_no, .int a, .int w_if, .int w_ma]))] := hD
    refine lv_iload_n hx hb dX10_seed_22 rfl (lv_at hl 0 rfl) ?_
    have hP9 := hP.sub (ws' := ((fun u : gS => [(g, .inr (10, [.ref tp, .ref cr, .ref rr, .ref dr, .ref ru, .int g_rc, .ref w, .ref im, .ref h, .ref ho, .ref tr, .ref rk, .ref g1, .ref g2, .ref sp, .int g_sr])), (w, .inr (9, [.ref w_l, .ref w_d, .ref w_nh, .ref w_np, .ref w_nc, .int w_no, .int a, .int w_if, .int w_ma]))]) ((fun _ => 0), (fun _ _ => 0), (fun _ => 0), (fun _ _ => 0), (fun _ => none)))) [0, 1] rfl
    have hD9 := hD.sub (ws' := ((fun u : gS => [(g, .inr (10, [.ref tp, .ref cr, .ref rr, .ref dr, .ref ru, .int g_rc, .ref w, .ref im, .ref h, .ref ho, .ref tr, .ref rk, .ref g1, .ref g2, .ref sp, .int g_sr])), (w, .inr (9, [.ref w_l, .ref w_d, .ref w_nh, .ref w_np, .ref w_nc, .int w_no, .int a, .int w_if, .int w_ma]))]) ((fun _ => 0), (fun _ _ => 0), (fun _ => 0), (fun _ _ => 0), (fun _ => none)))) [0, 1] (by decide) rfl
    exact W.iret (v := w_x) hx hb hr (fun t ht hW => ⟨⟨w_x, ((fun _ => 0), (fun _ _ => 0), (fun _ => 0), (fun _ _ => 0), (fun _ => none)), rfl, ⟨⟨rfl, trivial⟩, trivial⟩, by rw [ht]; exact hP9, hD9⟩, hS.F ht⟩) hS.2.2 dX10_seed_23
  · exact absurd (gz_nle c_1) (gIv_nlt h_a (gIv_of (a := 0) (b := 0) (x := 0) (by decide)) (by decide))
set_option maxHeartbeats 4000000 in
set_option maxRecDepth 100000 in
theorem s_X10_seed_n (l : Launch) (G : va_G) (k : Nat → ClassId) (sa : Nat → Nat) (g : Nat) (a : Int32) (h_a : gIv (-2147483648) (-1) a) : Met l yX10_seed vs_s_X10_seed_n ({ frames := 0, cells := 0, slots := 0, locals := 0 } : Room) (gR G k sa [.ref g, .int a] []) (vp_Si (fun r => (r = (-1) ∧ True))) 0 0 (fun _ => False) := by
  refine gz_metR (cc := cX10_seed) (maxL := 3) (ret := (some .int)) (by decide) rfl (Nat.le_of_ble_eq_true rfl) ?_
  intro p_ e_ s_ m below_ meth_ c_ ls hx hb hr hml hts hown hlocks hP hE hZ hS hl
  have hl : lv_has ls 3 [(0, .ref g), (1, .int a)] := hl
  refine lv_iload_n hx hb dX10_seed_0 rfl (lv_at hl 1 rfl) ?_
  refine lv_if_ge (tgt := 6) hx hb dX10_seed_1 (by decide) (fun c_1 => ?_) (fun c_1 => ?_)
  · exact absurd c_1 (gIv_nle (gIv_of (a := 0) (b := 0) (x := 0) (by decide)) h_a (by decide))
  · refine lv_iconst (v := (-1)) hx hb dX10_seed_4 (by decide) ?_
    exact W.iret (v := (-1)) hx hb hr (fun t ht hW => ⟨(-1), rfl, ⟨rfl, trivial⟩, ht⟩) (fun _ h9 => absurd h9 List.not_mem_nil) dX10_seed_5
set_option maxHeartbeats 4000000 in
set_option maxRecDepth 100000 in
theorem s_X10_image_lo (l : Launch) (G : va_G) (k : Nat → ClassId) (sa : Nat → Nat) (g : Nat) (a : Int32) (h_a : gIv (-2147483648) (-1) a) : Met l yX10_image vs_s_X10_image_lo ({ frames := 1, cells := 0, slots := 0, locals := 22 } : Room) (gR G k sa [.ref g, .int a] []) (vp_Si (fun r => gIv (-1) (-1) r)) 0 0 (fun _ => False) := by
  refine gz_metR (cc := cX10_image) (maxL := 2) (ret := (some .int)) (by decide) rfl (Nat.le_of_ble_eq_true rfl) ?_
  intro p_ e_ s_ m below_ meth_ c_ ls hx hb hr hml hts hown hlocks hP hE hZ hS hl
  have hl : lv_has ls 2 [(0, .ref g), (1, .int a)] := hl
  refine lv_iload_n hx hb dX10_image_0 rfl (lv_at hl 1 rfl) ?_
  refine lv_iconst (v := 0) hx hb dX10_image_1 (by decide) ?_
  refine lv_iconst (v := 3) hx hb dX10_image_2 (by decide) ?_
  refine vp_callSi (W.runS (As := [.int a, .int 0, .int 3]) (rest := []) ⟨hx, hb, hml, hown, hts⟩ (s_X10_outside2 l G k sa a 0 3) (va_cwS 3 hts g_s_X10_image_lo_110_s_X10_outside2 rfl rfl rfl (by decide +kernel) ⟨(Nat.le_of_ble_eq_true rfl), (Nat.le_of_ble_eq_true rfl)⟩) ⟨gR.bl, (gR.pre (wc := []) hE hZ hS hP [] rfl)⟩ rfl rfl hl.1 rfl (lv_room (Nat.le_of_ble_eq_true rfl)) dX10_image_3 ⟨(Nat.le_of_ble_eq_true rfl), (Nat.le_of_ble_eq_true rfl)⟩) (fun r_3 hr_3 => ?_)
  rcases hr_3 with ⟨rfl, k3_0⟩ | ⟨rfl, k3_0, k3_1⟩
  · refine lv_if_eq (tgt := 11) hx hb dX10_image_6 (by decide) (fun c_6 => ?_) (fun c_6 => ?_)
    · exact absurd c_6 (gIv_neq (gIv_of (a := 1) (b := 1) (x := 1) (by decide)) (gIv_of (a := 0) (b := 0) (x := 0) (by decide)) (by decide))
    · refine lv_iconst (v := (-1)) hx hb dX10_image_9 (by decide) ?_
      exact W.iret (v := (-1)) hx hb hr (fun t ht hW => ⟨(-1), rfl, (gIv_of (a := (-1)) (b := (-1)) (x := (-1)) (by decide)), ht⟩) (fun _ h9 => absurd h9 List.not_mem_nil) dX10_image_10
  · exact absurd k3_0 (gIv_nle (gIv_of (a := 0) (b := 0) (x := 0) (by decide)) h_a (by decide))
set_option maxHeartbeats 4000000 in
set_option maxRecDepth 100000 in
theorem s_X10_image_hi (l : Launch) (G : va_G) (k : Nat → ClassId) (sa : Nat → Nat) (g : Nat) (a : Int32) (h_a : gIv 4 2147483647 a) : Met l yX10_image vs_s_X10_image_hi ({ frames := 1, cells := 0, slots := 0, locals := 22 } : Room) (gR G k sa [.ref g, .int a] []) (vp_Si (fun r => gIv (-1) (-1) r)) 0 0 (fun _ => False) := by
  refine gz_metR (cc := cX10_image) (maxL := 2) (ret := (some .int)) (by decide) rfl (Nat.le_of_ble_eq_true rfl) ?_
  intro p_ e_ s_ m below_ meth_ c_ ls hx hb hr hml hts hown hlocks hP hE hZ hS hl
  have hl : lv_has ls 2 [(0, .ref g), (1, .int a)] := hl
  refine lv_iload_n hx hb dX10_image_0 rfl (lv_at hl 1 rfl) ?_
  refine lv_iconst (v := 0) hx hb dX10_image_1 (by decide) ?_
  refine lv_iconst (v := 3) hx hb dX10_image_2 (by decide) ?_
  refine vp_callSi (W.runS (As := [.int a, .int 0, .int 3]) (rest := []) ⟨hx, hb, hml, hown, hts⟩ (s_X10_outside2 l G k sa a 0 3) (va_cwS 3 hts g_s_X10_image_hi_110_s_X10_outside2 rfl rfl rfl (by decide +kernel) ⟨(Nat.le_of_ble_eq_true rfl), (Nat.le_of_ble_eq_true rfl)⟩) ⟨gR.bl, (gR.pre (wc := []) hE hZ hS hP [] rfl)⟩ rfl rfl hl.1 rfl (lv_room (Nat.le_of_ble_eq_true rfl)) dX10_image_3 ⟨(Nat.le_of_ble_eq_true rfl), (Nat.le_of_ble_eq_true rfl)⟩) (fun r_3 hr_3 => ?_)
  rcases hr_3 with ⟨rfl, k3_0⟩ | ⟨rfl, k3_0, k3_1⟩
  · refine lv_if_eq (tgt := 11) hx hb dX10_image_6 (by decide) (fun c_6 => ?_) (fun c_6 => ?_)
    · exact absurd c_6 (gIv_neq (gIv_of (a := 1) (b := 1) (x := 1) (by decide)) (gIv_of (a := 0) (b := 0) (x := 0) (by decide)) (by decide))
    · refine lv_iconst (v := (-1)) hx hb dX10_image_9 (by decide) ?_
      exact W.iret (v := (-1)) hx hb hr (fun t ht hW => ⟨(-1), rfl, (gIv_of (a := (-1)) (b := (-1)) (x := (-1)) (by decide)), ht⟩) (fun _ h9 => absurd h9 List.not_mem_nil) dX10_image_10
  · exact absurd k3_1 (gIv_nle h_a (gIv_of (a := 3) (b := 3) (x := 3) (by decide)) (by decide))
set_option maxHeartbeats 4000000 in
set_option maxRecDepth 100000 in
theorem s_X10_back_lo (l : Launch) (G : va_G) (k : Nat → ClassId) (sa : Nat → Nat) (g : Nat) (a : Int32) (h_a : gIv (-2147483648) (-1) a) : Met l yX10_back vs_s_X10_back_lo ({ frames := 1, cells := 0, slots := 0, locals := 22 } : Room) (gR G k sa [.ref g, .int a] []) (vp_Si (fun r => gIv (-1) (-1) r)) 0 0 (fun _ => False) := by
  refine gz_metR (cc := cX10_back) (maxL := 2) (ret := (some .int)) (by decide) rfl (Nat.le_of_ble_eq_true rfl) ?_
  intro p_ e_ s_ m below_ meth_ c_ ls hx hb hr hml hts hown hlocks hP hE hZ hS hl
  have hl : lv_has ls 2 [(0, .ref g), (1, .int a)] := hl
  have hB_21 : ∀ (ls : Array Slot), lv_has ls 2 [] → W p_ l e_ (headSpec vs_s_X10_back_lo ({ frames := 1, cells := 0, slots := 0, locals := 22 } : Room)).room s_ m [.ref g, .int a].toArray below_ meth_ c_ s_.heap [] 0 0 (MQ below_ (vp_Si (fun r => gIv (-1) (-1) r)) [.ref g, .int a].toArray s_ 0 0 (fun _ => False)) (F0 m 21 ls []) := by
    intro  ls  hl
    refine lv_iconst (v := (-1)) hx hb dX10_back_21 (by decide) ?_
    exact W.iret (v := (-1)) hx hb hr (fun t ht hW => ⟨(-1), rfl, (gIv_of (a := (-1)) (b := (-1)) (x := (-1)) (by decide)), ht⟩) (fun _ h9 => absurd h9 List.not_mem_nil) dX10_back_22
  refine lv_iload_n hx hb dX10_back_0 rfl (lv_at hl 1 rfl) ?_
  refine lv_iconst (v := 0) hx hb dX10_back_1 (by decide) ?_
  refine lv_iconst (v := 3) hx hb dX10_back_2 (by decide) ?_
  refine vp_callSi (W.runS (As := [.int a, .int 0, .int 3]) (rest := []) ⟨hx, hb, hml, hown, hts⟩ (s_X10_outside2 l G k sa a 0 3) (va_cwS 3 hts g_s_X10_back_lo_110_s_X10_outside2 rfl rfl rfl (by decide +kernel) ⟨(Nat.le_of_ble_eq_true rfl), (Nat.le_of_ble_eq_true rfl)⟩) ⟨gR.bl, (gR.pre (wc := []) hE hZ hS hP [] rfl)⟩ rfl rfl hl.1 rfl (lv_room (Nat.le_of_ble_eq_true rfl)) dX10_back_3 ⟨(Nat.le_of_ble_eq_true rfl), (Nat.le_of_ble_eq_true rfl)⟩) (fun r_3 hr_3 => ?_)
  rcases hr_3 with ⟨rfl, k3_0⟩ | ⟨rfl, k3_0, k3_1⟩
  · refine lv_if_ne (tgt := 21) hx hb dX10_back_6 (by decide) (fun c_6 => ?_) (fun c_6 => ?_)
    · exact hB_21  ls  (lv_sub hl [] rfl)
    · exact absurd c_6 (gIv_neq (gIv_of (a := 1) (b := 1) (x := 1) (by decide)) (gIv_of (a := 0) (b := 0) (x := 0) (by decide)) (by decide))
  · exact absurd k3_0 (gIv_nle (gIv_of (a := 0) (b := 0) (x := 0) (by decide)) h_a (by decide))
