set_option maxHeartbeats 4000000 in
set_option maxRecDepth 100000 in
/-- THE LAW, from its entry -/
theorem whole_start {p : Program} {e : Env} {s : State} {m : MethodId} {below : List Frame} {meth : Method} {c : Code} (l : Launch) (hflags : l.flags = flags0) {b L : Nat} {xs : Nat → Int32} (hL : L ≤ 6) (C0 : lw_At p s m meth c b L xs) : W p l e room_1 s m #[Value.ref b] below meth c s.heap [] 0 0 (lw_Z below #[Value.ref b] s) (entryFrame m ([Value.ref b] : List Value).toArray 4) := by
  obtain ⟨hx, hb, hr, hml, hown, hts0, hX, hbl, hlocks, hgv⟩ := id C0
  obtain ⟨G, k, sa, hE⟩ := gz_env hts0 hgv
  have hts := hts0
  obtain ⟨A, hAe⟩ : ∃ A : Nat → Prop, A = fun q => s.heap.size ≤ q := ⟨_, rfl⟩
  have hA : ∀ q : Nat, s.heap.size ≤ q → A q := by rw [hAe]; exact fun _ h => h
  have hbA : ¬ A b := by rw [hAe]; exact Nat.not_le.mpr hbl
  have hS : va_S A s.heap s.heap [] := va_S.rf
  have hP : va_P G vwCl [] s.heap := fun k q h => by simp at h
  have hD : va_D A [] := ⟨fun i j p q h => by simp at h, fun k q h => by simp at h⟩
  have hl := lv_entry ([.ref b]) (n := 4) (Nat.le_of_ble_eq_true rfl)
  rw [lg_entry_eq]
  generalize (lg_sl ([.ref b]) ++ List.replicate (4 - (lg_sl ([.ref b])).length) Slot.unset).toArray = ls at hl ⊢
  have hl : lv_has ls 4 [(0, .ref b)] := hl
  refine va_new (D := G) (ci := 10) (fs := [.null, .null, .null, .null, .null, .int 0, .null, .null, .null, .null, .null, .null, .null, .null, .null, .int 0]) (C := RX10) (T := TX10) (N := 16) hx hb hts inq_10 tyX10 tyX10_ok hown (hts (.classLink RL 7 RX10) ltw_722) (hts (.instantiable RX10 16) ltw_488) (hts (.initialized RX10) ltw_91) hE.K hP hD hS hA rfl zd_10 (Nat.le_of_ble_eq_true rfl) (Nat.le_of_ble_eq_true rfl) dL_law_0 (fun q_1 H hP hD hS => ?_)
  have hP : va_P G vwCl [(q_1, .inr (10, [.null, .null, .null, .null, .null, .int 0, .null, .null, .null, .null, .null, .null, .null, .null, .null, .int 0]))] H := hP
  have hD : va_D A [(q_1, .inr (10, [.null, .null, .null, .null, .null, .int 0, .null, .null, .null, .null, .null, .null, .null, .null, .null, .int 0]))] := hD
  refine W.widen (k := 1) (n := 16) (Nat.le_of_ble_eq_true rfl) (Nat.le_of_ble_eq_true rfl) ?_
  refine lv_dup hx hb dL_law_3 rfl ?_
  refine gz_v (wc := [(q_1, .inr (10, [.null, .null, .null, .null, .null, .int 0, .null, .null, .null, .null, .null, .null, .null, .null, .null, .int 0]))]) (wr := []) hP hD hS hA [0] [] rfl rfl (by decide) (by decide) (va_runI (As := []) (rest := [.ref q_1]) ⟨hx, hb, hml, hown, hts⟩ (c_X10_init l G k sa _ q_1) (cwI 0 hts g_L_9_c_X10_init rfl rfl rfl (hts (.initialized RX10) ltw_91) (hts (.methodLink RL 9 yX10_init) ltw_723) (hts (.instanceMethod yX10_init) ltw_724) rfl (by decide +kernel) ⟨(Nat.le_of_ble_eq_true rfl), (Nat.le_of_ble_eq_true rfl)⟩) ⟨gP.bl, (gP.pre (wc := [(q_1, .inr (10, [.null, .null, .null, .null, .null, .int 0, .null, .null, .null, .null, .null, .null, .null, .null, .null, .int 0]))]) hE hP hD [0] rfl (by decide))⟩ rfl rfl hl.1 rfl (lv_room (Nat.le_of_ble_eq_true rfl)) dL_law_4 ⟨(Nat.le_of_ble_eq_true rfl), (Nat.le_of_ble_eq_true rfl)⟩) (fun u_2 H locs _ hP hD hS => ?_)
  have hP : va_P G vwCl (ggW k q_1 u_2) H := hP
  have hD : va_D A (ggW k q_1 u_2) := hD
  refine W.widen (k := 263) (n := 5843) (Nat.le_of_ble_eq_true rfl) (Nat.le_of_ble_eq_true rfl) ?_
  refine lv_astore_n (lv' := [(1, .ref q_1), (0, .ref b)]) hx hb dL_law_7 rfl hl (by decide) rfl (fun ls hl => ?_)
  refine va_new (D := G) (ci := 11) (fs := [.null, .int 0, .int 0, .null, .null, .null, .null, .null, .int 0, .int 0, .int 0, .int 0, .int 0, .int 0, .int 0, .null, .int 0, .null, .int 0, .null, .null, .int 0, .int 0, .null, .int 0, .int 0, .int 0, .int 0, .int 0, .int 0, .null, .int 0, .null, .int 0, .int 0, .null, .null, .null, .null, .long 0, .null, .null, .null, .null]) (C := RX11) (T := TX11) (N := 44) hx hb hts inq_11 tyX11 tyX11_ok hown (hts (.classLink RL 10 RX11) ltw_725) (hts (.instantiable RX11 44) ltw_489) (hts (.initialized RX11) ltw_371) hE.K hP hD hS hA rfl zd_11 (Nat.le_of_ble_eq_true rfl) (Nat.le_of_ble_eq_true rfl) dL_law_8 (fun q_3 H hP hD hS => ?_)
  have hP : va_P G vwCl (ggW k q_1 u_2 ++ ([(q_3, .inr (11, [.null, .int 0, .int 0, .null, .null, .null, .null, .null, .int 0, .int 0, .int 0, .int 0, .int 0, .int 0, .int 0, .null, .int 0, .null, .int 0, .null, .null, .int 0, .int 0, .null, .int 0, .int 0, .int 0, .int 0, .int 0, .int 0, .null, .int 0, .null, .int 0, .int 0, .null, .null, .null, .null, .long 0, .null, .null, .null, .null]))])) H := hP
  have hD : va_D A (ggW k q_1 u_2 ++ ([(q_3, .inr (11, [.null, .int 0, .int 0, .null, .null, .null, .null, .null, .int 0, .int 0, .int 0, .int 0, .int 0, .int 0, .int 0, .null, .int 0, .null, .int 0, .null, .null, .int 0, .int 0, .null, .int 0, .int 0, .int 0, .int 0, .int 0, .int 0, .null, .int 0, .null, .int 0, .int 0, .null, .null, .null, .null, .long 0, .null, .null, .null, .null]))])) := hD
  refine W.widen (k := 264) (n := 5887) (Nat.le_of_ble_eq_true rfl) (Nat.le_of_ble_eq_true rfl) ?_
  refine lv_dup hx hb dL_law_11 rfl ?_
  refine gz_v (wc := [(q_3, .inr (11, [.null, .int 0, .int 0, .null, .null, .null, .null, .null, .int 0, .int 0, .int 0, .int 0, .int 0, .int 0, .int 0, .null, .int 0, .null, .int 0, .null, .null, .int 0, .int 0, .null, .int 0, .int 0, .int 0, .int 0, .int 0, .int 0, .null, .int 0, .null, .int 0, .int 0, .null, .null, .null, .null, .long 0, .null, .null, .null, .null]))]) (wr := ggW k q_1 u_2) hP hD hS hA [112] [0, 1, 2, 3, 4, 5, 6, 7, 8, 9, 10, 11, 12, 13, 14, 15, 16, 17, 18, 19, 20, 21, 22, 23, 24, 25, 26, 27, 28, 29, 30, 31, 32, 33, 34, 35, 36, 37, 38, 39, 40, 41, 42, 43, 44, 45, 46, 47, 48, 49, 50, 51, 52, 53, 54, 55, 56, 57, 58, 59, 60, 61, 62, 63, 64, 65, 66, 67, 68, 69, 70, 71, 72, 73, 74, 75, 76, 77, 78, 79, 80, 81, 82, 83, 84, 85, 86, 87, 88, 89, 90, 91, 92, 93, 94, 95, 96, 97, 98, 99, 100, 101, 102, 103, 104, 105, 106, 107, 108, 109, 110, 111] rfl rfl (by decide) (by decide) (va_runI (As := []) (rest := [.ref q_3]) ⟨hx, hb, hml, hown, hts⟩ (c_X11_init l G k sa _ q_3) (cwI 0 hts g_L_12_c_X11_init rfl rfl rfl (hts (.initialized RX11) ltw_371) (hts (.methodLink RL 12 yX11_init) ltw_726) (hts (.instanceMethod yX11_init) ltw_727) rfl (by decide +kernel) ⟨(Nat.le_of_ble_eq_true rfl), (Nat.le_of_ble_eq_true rfl)⟩) ⟨gP.bl, (gP.pre (wc := [(q_3, .inr (11, [.null, .int 0, .int 0, .null, .null, .null, .null, .null, .int 0, .int 0, .int 0, .int 0, .int 0, .int 0, .int 0, .null, .int 0, .null, .int 0, .null, .null, .int 0, .int 0, .null, .int 0, .int 0, .int 0, .int 0, .int 0, .int 0, .null, .int 0, .null, .int 0, .int 0, .null, .null, .null, .null, .long 0, .null, .null, .null, .null]))]) hE hP hD [112] rfl (by decide))⟩ rfl rfl hl.1 rfl (lv_room (Nat.le_of_ble_eq_true rfl)) dL_law_12 ⟨(Nat.le_of_ble_eq_true rfl), (Nat.le_of_ble_eq_true rfl)⟩) (fun u_4 H locs _ hP hD hS => ?_)
  have hP : va_P G vwCl (ggW k q_1 u_2 ++ (mmW k q_3 u_4)) H := hP
  have hD : va_D A (ggW k q_1 u_2 ++ (mmW k q_3 u_4)) := hD
  refine W.widen (k := 285) (n := 12688) (Nat.le_of_ble_eq_true rfl) (Nat.le_of_ble_eq_true rfl) ?_
  refine lv_astore_n (lv' := [(2, .ref q_3), (1, .ref q_1), (0, .ref b)]) hx hb dL_law_15 rfl hl (by decide) rfl (fun ls hl => ?_)
  refine lv_iconst (v := 0) hx hb dL_law_16 (by decide) ?_
  refine lv_istore_n (lv' := [(3, .int 0), (2, .ref q_3), (1, .ref q_1), (0, .ref b)]) hx hb dL_law_17 rfl hl (by decide) rfl (fun ls hl => ?_)
  rcases (show L = 0 ∨ L = 1 ∨ L = 2 ∨ L = 3 ∨ L = 4 ∨ L = 5 ∨ L = 6 by omega) with rfl | rfl | rfl | rfl | rfl | rfl | rfl
  · refine lv_iload_n hx hb dL_law_18 rfl (lv_at hl 0 rfl) ?_
    refine lv_aload_n hx hb dL_law_19 rfl (lv_at hl 3 rfl) ?_
    refine va_slen hx hb hX hbl hbA hS dL_law_20 ?_
    refine gz_ni (v := 0) (by decide) ?_
    refine lv_bipush (v := 6) hx hb dL_law_21 (by decide) ?_
    refine lv_isub hx hb dL_law_23 ?_
    refine gz_ni (v := (-6)) (by decide) ?_
    refine lv_icmp_gt (tgt := 1259) hx hb dL_law_24 (by decide) (fun _ => ?_) (fun h9 => absurd h9 (by decide))
    refine lv_iconst (v := 1) hx hb dL_law_1259 (by decide) ?_
    refine va_forget (fun q hq => by have h9 := hS.2.2 q hq; rw [hAe] at h9; exact h9) ?_
    refine W.widen (k := 600000) (n := 7302250) (Nat.le_of_ble_eq_true rfl) (Nat.le_of_ble_eq_true rfl) ?_
    exact lw_ret hx hb hr hlocks dL_law_1260
  · refine lv_iload_n hx hb dL_law_18 rfl (lv_at hl 0 rfl) ?_
    refine lv_aload_n hx hb dL_law_19 rfl (lv_at hl 3 rfl) ?_
    refine va_slen hx hb hX hbl hbA hS dL_law_20 ?_
    refine gz_ni (v := 1) (by decide) ?_
    refine lv_bipush (v := 6) hx hb dL_law_21 (by decide) ?_
    refine lv_isub hx hb dL_law_23 ?_
    refine gz_ni (v := (-5)) (by decide) ?_
    refine lv_icmp_gt (tgt := 1259) hx hb dL_law_24 (by decide) (fun _ => ?_) (fun h9 => absurd h9 (by decide))
    refine lv_iconst (v := 1) hx hb dL_law_1259 (by decide) ?_
    refine va_forget (fun q hq => by have h9 := hS.2.2 q hq; rw [hAe] at h9; exact h9) ?_
    refine W.widen (k := 600000) (n := 7302250) (Nat.le_of_ble_eq_true rfl) (Nat.le_of_ble_eq_true rfl) ?_
    exact lw_ret hx hb hr hlocks dL_law_1260
  · refine lv_iload_n hx hb dL_law_18 rfl (lv_at hl 0 rfl) ?_
    refine lv_aload_n hx hb dL_law_19 rfl (lv_at hl 3 rfl) ?_
    refine va_slen hx hb hX hbl hbA hS dL_law_20 ?_
    refine gz_ni (v := 2) (by decide) ?_
    refine lv_bipush (v := 6) hx hb dL_law_21 (by decide) ?_
    refine lv_isub hx hb dL_law_23 ?_
    refine gz_ni (v := (-4)) (by decide) ?_
    refine lv_icmp_gt (tgt := 1259) hx hb dL_law_24 (by decide) (fun _ => ?_) (fun h9 => absurd h9 (by decide))
    refine lv_iconst (v := 1) hx hb dL_law_1259 (by decide) ?_
    refine va_forget (fun q hq => by have h9 := hS.2.2 q hq; rw [hAe] at h9; exact h9) ?_
    refine W.widen (k := 600000) (n := 7302250) (Nat.le_of_ble_eq_true rfl) (Nat.le_of_ble_eq_true rfl) ?_
    exact lw_ret hx hb hr hlocks dL_law_1260
  · refine lv_iload_n hx hb dL_law_18 rfl (lv_at hl 0 rfl) ?_
    refine lv_aload_n hx hb dL_law_19 rfl (lv_at hl 3 rfl) ?_
    refine va_slen hx hb hX hbl hbA hS dL_law_20 ?_
    refine gz_ni (v := 3) (by decide) ?_
    refine lv_bipush (v := 6) hx hb dL_law_21 (by decide) ?_
    refine lv_isub hx hb dL_law_23 ?_
    refine gz_ni (v := (-3)) (by decide) ?_
    refine lv_icmp_gt (tgt := 1259) hx hb dL_law_24 (by decide) (fun _ => ?_) (fun h9 => absurd h9 (by decide))
    refine lv_iconst (v := 1) hx hb dL_law_1259 (by decide) ?_
    refine va_forget (fun q hq => by have h9 := hS.2.2 q hq; rw [hAe] at h9; exact h9) ?_
    refine W.widen (k := 600000) (n := 7302250) (Nat.le_of_ble_eq_true rfl) (Nat.le_of_ble_eq_true rfl) ?_
    exact lw_ret hx hb hr hlocks dL_law_1260
  · refine lv_iload_n hx hb dL_law_18 rfl (lv_at hl 0 rfl) ?_
    refine lv_aload_n hx hb dL_law_19 rfl (lv_at hl 3 rfl) ?_
    refine va_slen hx hb hX hbl hbA hS dL_law_20 ?_
    refine gz_ni (v := 4) (by decide) ?_
    refine lv_bipush (v := 6) hx hb dL_law_21 (by decide) ?_
    refine lv_isub hx hb dL_law_23 ?_
    refine gz_ni (v := (-2)) (by decide) ?_
    refine lv_icmp_gt (tgt := 1259) hx hb dL_law_24 (by decide) (fun _ => ?_) (fun h9 => absurd h9 (by decide))
    refine lv_iconst (v := 1) hx hb dL_law_1259 (by decide) ?_
    refine va_forget (fun q hq => by have h9 := hS.2.2 q hq; rw [hAe] at h9; exact h9) ?_
    refine W.widen (k := 600000) (n := 7302250) (Nat.le_of_ble_eq_true rfl) (Nat.le_of_ble_eq_true rfl) ?_
    exact lw_ret hx hb hr hlocks dL_law_1260
  · refine lv_iload_n hx hb dL_law_18 rfl (lv_at hl 0 rfl) ?_
    refine lv_aload_n hx hb dL_law_19 rfl (lv_at hl 3 rfl) ?_
    refine va_slen hx hb hX hbl hbA hS dL_law_20 ?_
    refine gz_ni (v := 5) (by decide) ?_
    refine lv_bipush (v := 6) hx hb dL_law_21 (by decide) ?_
    refine lv_isub hx hb dL_law_23 ?_
    refine gz_ni (v := (-1)) (by decide) ?_
    refine lv_icmp_gt (tgt := 1259) hx hb dL_law_24 (by decide) (fun _ => ?_) (fun h9 => absurd h9 (by decide))
    refine lv_iconst (v := 1) hx hb dL_law_1259 (by decide) ?_
    refine va_forget (fun q hq => by have h9 := hS.2.2 q hq; rw [hAe] at h9; exact h9) ?_
    refine W.widen (k := 600000) (n := 7302250) (Nat.le_of_ble_eq_true rfl) (Nat.le_of_ble_eq_true rfl) ?_
    exact lw_ret hx hb hr hlocks dL_law_1260
  · refine lv_iload_n hx hb dL_law_18 rfl (lv_at hl 0 rfl) ?_
    refine lv_aload_n hx hb dL_law_19 rfl (lv_at hl 3 rfl) ?_
    refine va_slen hx hb hX hbl hbA hS dL_law_20 ?_
    refine gz_ni (v := 6) (by decide) ?_
    refine lv_bipush (v := 6) hx hb dL_law_21 (by decide) ?_
    refine lv_isub hx hb dL_law_23 ?_
    refine gz_ni (v := 0) (by decide) ?_
    refine lv_icmp_gt (tgt := 1259) hx hb dL_law_24 (by decide) (fun h9 => absurd h9 (by decide)) (fun _ => ?_)
    refine lv_aload_n hx hb dL_law_27 rfl (lv_at hl 3 rfl) ?_
    refine lv_iload_n hx hb dL_law_28 rfl (lv_at hl 0 rfl) ?_
    obtain ⟨y0, e0⟩ : ∃ y : Int32, y = xs (0 : Int32).toNatClampNeg := ⟨_, rfl⟩
    refine va_sld hx hb hX hbl hbA hS (gz_in (by decide)) dL_law_29 ?_
    refine gz_ni (v := y0) e0.symm ?_
    refine lv_bipush (v := 63) hx hb dL_law_30 (by decide) ?_
    refine lv_iand hx hb dL_law_32 ?_
    refine lv_topi (fun y ey => ?_)
    rcases gz_tab_0_34 y with hy | h0 | h0 | h0 | h0 | h0 | h0 | h0 | h0 | h0 | h0 | h0 | h0 | h0 | h0 | h0 | h0 | h0 | h0 | h0 | h0 | h0 | h0 | h0 | h0 | h0 | h0 | h0 | h0 | h0 | h0 | h0 | h0 | h0 | h0 | h0
    · refine lv_tableOut (tgt := 1253) hx hb dL_law_33 hy (by decide) ?_
      exact law_none l G k sa C0 hE hAe q_1 q_3 u_2 u_4 hP hD hS (lv_sub hl [0, 1, 2, 3] rfl)
    · subst h0
      refine lv_tableIn (off := 155) (tgt := 188) hx hb dL_law_33 (by decide) (by decide) (by decide) (by decide) ?_
      exact law_feed l G k sa C0 hE hAe q_1 q_3 u_2 u_4 hP hD hS (lv_sub hl [0, 1, 2, 3] rfl)
    · subst h0
      refine lv_tableIn (off := 218) (tgt := 251) hx hb dL_law_33 (by decide) (by decide) (by decide) (by decide) ?_
      exact law_end l G k sa C0 hE hAe q_1 q_3 u_2 u_4 hP hD hS (lv_sub hl [0, 1, 2, 3] rfl)
    · subst h0
      refine lv_tableIn (off := 241) (tgt := 274) hx hb dL_law_33 (by decide) (by decide) (by decide) (by decide) ?_
      exact law_country l G k sa C0 hE hAe q_1 q_3 u_2 u_4 hP hD hS (lv_sub hl [0, 1, 2, 3] rfl)
    · subst h0
      refine lv_tableIn (off := 254) (tgt := 287) hx hb dL_law_33 (by decide) (by decide) (by decide) (by decide) ?_
      exact law_rule l G k sa C0 hE hAe q_1 q_3 u_2 u_4 hP hD hS (lv_sub hl [0, 1, 2, 3] rfl)
    · subst h0
      refine lv_tableIn (off := 267) (tgt := 300) hx hb dL_law_33 (by decide) (by decide) (by decide) (by decide) ?_
      exact law_force l G k sa C0 hE hAe q_1 q_3 u_2 u_4 hP hD hS (lv_sub hl [0, 1, 2, 3] rfl)
    · subst h0
      refine lv_tableIn (off := 290) (tgt := 323) hx hb dL_law_33 (by decide) (by decide) (by decide) (by decide) ?_
      exact law_person l G k sa C0 hE hAe q_1 q_3 u_2 u_4 hP hD hS (lv_sub hl [0, 1, 2, 3] rfl)
    · subst h0
      refine lv_tableIn (off := 323) (tgt := 356) hx hb dL_law_33 (by decide) (by decide) (by decide) (by decide) ?_
      exact law_wind l G k sa C0 hE hAe q_1 q_3 u_2 u_4 hP hD hS (lv_sub hl [0, 1, 2, 3] rfl)
    · subst h0
      refine lv_tableIn (off := 356) (tgt := 389) hx hb dL_law_33 (by decide) (by decide) (by decide) (by decide) ?_
      exact law_gateIn l G k sa C0 hE hAe q_1 q_3 u_2 u_4 hP hD hS (lv_sub hl [0, 1, 2, 3] rfl)
    · subst h0
      refine lv_tableIn (off := 379) (tgt := 412) hx hb dL_law_33 (by decide) (by decide) (by decide) (by decide) ?_
      exact law_hour l G k sa C0 hE hAe q_1 q_3 u_2 u_4 hP hD hS (lv_sub hl [0, 1, 2, 3] rfl)
    · subst h0
      refine lv_tableIn (off := 392) (tgt := 425) hx hb dL_law_33 (by decide) (by decide) (by decide) (by decide) ?_
      exact law_tell l G k sa C0 hE hAe q_1 q_3 u_2 u_4 hP hD hS (lv_sub hl [0, 1, 2, 3] rfl)
    · subst h0
      refine lv_tableIn (off := 425) (tgt := 458) hx hb dL_law_33 (by decide) (by decide) (by decide) (by decide) ?_
      exact law_save l G k sa C0 hE hAe q_1 q_3 u_2 u_4 hP hD hS (lv_sub hl [0, 1, 2, 3] rfl)
    · subst h0
      refine lv_tableIn (off := 458) (tgt := 491) hx hb dL_law_33 (by decide) (by decide) (by decide) (by decide) ?_
      exact law_carry l G k sa C0 hE hAe q_1 q_3 u_2 u_4 hP hD hS (lv_sub hl [0, 1, 2, 3] rfl)
    · subst h0
      refine lv_tableIn (off := 491) (tgt := 524) hx hb dL_law_33 (by decide) (by decide) (by decide) (by decide) ?_
      exact law_gate l G k sa C0 hE hAe q_1 q_3 u_2 u_4 hP hD hS (lv_sub hl [0, 1, 2, 3] rfl)
    · subst h0
      refine lv_tableIn (off := 514) (tgt := 547) hx hb dL_law_33 (by decide) (by decide) (by decide) (by decide) ?_
      exact law_undo l G k sa C0 hE hAe q_1 q_3 u_2 u_4 hP hD hS (lv_sub hl [0, 1, 2, 3] rfl)
    · subst h0
      refine lv_tableIn (off := 527) (tgt := 560) hx hb dL_law_33 (by decide) (by decide) (by decide) (by decide) ?_
      exact law_ahead l G k sa C0 hE hAe q_1 q_3 u_2 u_4 hP hD hS (lv_sub hl [0, 1, 2, 3] rfl)
    · subst h0
      refine lv_tableIn (off := 570) (tgt := 603) hx hb dL_law_33 (by decide) (by decide) (by decide) (by decide) ?_
      exact law_goes l G k sa C0 hE hAe q_1 q_3 u_2 u_4 hP hD hS (lv_sub hl [0, 1, 2, 3] rfl)
    · subst h0
      refine lv_tableIn (off := 593) (tgt := 626) hx hb dL_law_33 (by decide) (by decide) (by decide) (by decide) ?_
      exact law_down l G k sa C0 hE hAe q_1 q_3 u_2 u_4 hP hD hS (lv_sub hl [0, 1, 2, 3] rfl)
    · subst h0
      refine lv_tableIn (off := 626) (tgt := 659) hx hb dL_law_33 (by decide) (by decide) (by decide) (by decide) ?_
      exact law_gone l G k sa C0 hE hAe q_1 q_3 u_2 u_4 hP hD hS (lv_sub hl [0, 1, 2, 3] rfl)
    · subst h0
      refine lv_tableIn (off := 669) (tgt := 702) hx hb dL_law_33 (by decide) (by decide) (by decide) (by decide) ?_
      exact law_timing l G k sa C0 hE hAe q_1 q_3 u_2 u_4 hP hD hS (lv_sub hl [0, 1, 2, 3] rfl)
    · subst h0
      refine lv_tableIn (off := 702) (tgt := 735) hx hb dL_law_33 (by decide) (by decide) (by decide) (by decide) ?_
      exact law_had l G k sa C0 hE hAe q_1 q_3 u_2 u_4 hP hD hS (lv_sub hl [0, 1, 2, 3] rfl)
    · subst h0
      refine lv_tableIn (off := 745) (tgt := 778) hx hb dL_law_33 (by decide) (by decide) (by decide) (by decide) ?_
      exact law_tangle l G k sa C0 hE hAe q_1 q_3 u_2 u_4 hP hD hS (lv_sub hl [0, 1, 2, 3] rfl)
    · subst h0
      refine lv_tableIn (off := 768) (tgt := 801) hx hb dL_law_33 (by decide) (by decide) (by decide) (by decide) ?_
      exact law_flock l G k sa C0 hE hAe q_1 q_3 u_2 u_4 hP hD hS (lv_sub hl [0, 1, 2, 3] rfl)
    · subst h0
      refine lv_tableIn (off := 801) (tgt := 834) hx hb dL_law_33 (by decide) (by decide) (by decide) (by decide) ?_
      exact law_bestGate l G k sa C0 hE hAe q_1 q_3 u_2 u_4 hP hD hS (lv_sub hl [0, 1, 2, 3] rfl)
    · subst h0
      refine lv_tableIn (off := 834) (tgt := 867) hx hb dL_law_33 (by decide) (by decide) (by decide) (by decide) ?_
      exact law_bestWinds l G k sa C0 hE hAe q_1 q_3 u_2 u_4 hP hD hS (lv_sub hl [0, 1, 2, 3] rfl)
    · subst h0
      refine lv_tableIn (off := 867) (tgt := 900) hx hb dL_law_33 (by decide) (by decide) (by decide) (by decide) ?_
      exact law_rests l G k sa C0 hE hAe q_1 q_3 u_2 u_4 hP hD hS (lv_sub hl [0, 1, 2, 3] rfl)
    · subst h0
      refine lv_tableIn (off := 920) (tgt := 953) hx hb dL_law_33 (by decide) (by decide) (by decide) (by decide) ?_
      exact law_ring l G k sa C0 hE hAe q_1 q_3 u_2 u_4 hP hD hS (lv_sub hl [0, 1, 2, 3] rfl)
    · subst h0
      refine lv_tableIn (off := 943) (tgt := 976) hx hb dL_law_33 (by decide) (by decide) (by decide) (by decide) ?_
      exact law_pence l G k sa C0 hE hAe q_1 q_3 u_2 u_4 hP hD hS (lv_sub hl [0, 1, 2, 3] rfl)
    · subst h0
      refine lv_tableIn (off := 976) (tgt := 1009) hx hb dL_law_33 (by decide) (by decide) (by decide) (by decide) ?_
      exact law_note l G k sa C0 hE hAe q_1 q_3 u_2 u_4 hP hD hS (lv_sub hl [0, 1, 2, 3] rfl)
    · subst h0
      refine lv_tableIn (off := 1019) (tgt := 1052) hx hb dL_law_33 (by decide) (by decide) (by decide) (by decide) ?_
      exact law_ruled l G k sa C0 hE hAe q_1 q_3 u_2 u_4 hP hD hS (lv_sub hl [0, 1, 2, 3] rfl)
    · subst h0
      refine lv_tableIn (off := 1042) (tgt := 1075) hx hb dL_law_33 (by decide) (by decide) (by decide) (by decide) ?_
      exact law_look l G k sa C0 hE hAe q_1 q_3 u_2 u_4 hP hD hS (lv_sub hl [0, 1, 2, 3] rfl)
    · subst h0
      refine lv_tableIn (off := 1075) (tgt := 1108) hx hb dL_law_33 (by decide) (by decide) (by decide) (by decide) ?_
      exact law_seed l G k sa C0 hE hAe q_1 q_3 u_2 u_4 hP hD hS (lv_sub hl [0, 1, 2, 3] rfl)
    · subst h0
      refine lv_tableIn (off := 1098) (tgt := 1131) hx hb dL_law_33 (by decide) (by decide) (by decide) (by decide) ?_
      exact law_gusts l G k sa C0 hE hAe q_1 q_3 u_2 u_4 hP hD hS (lv_sub hl [0, 1, 2, 3] rfl)
    · subst h0
      refine lv_tableIn (off := 1151) (tgt := 1184) hx hb dL_law_33 (by decide) (by decide) (by decide) (by decide) ?_
      exact law_count l G k sa C0 hE hAe q_1 q_3 u_2 u_4 hP hD hS (lv_sub hl [0, 1, 2, 3] rfl)
    · subst h0
      refine lv_tableIn (off := 1174) (tgt := 1207) hx hb dL_law_33 (by decide) (by decide) (by decide) (by decide) ?_
      exact law_image l G k sa C0 hE hAe q_1 q_3 u_2 u_4 hP hD hS (lv_sub hl [0, 1, 2, 3] rfl)
    · subst h0
      refine lv_tableIn (off := 1197) (tgt := 1230) hx hb dL_law_33 (by decide) (by decide) (by decide) (by decide) ?_
      exact law_back l G k sa C0 hE hAe q_1 q_3 u_2 u_4 hP hD hS (lv_sub hl [0, 1, 2, 3] rfl)
