set_option maxHeartbeats 4000000 in
set_option maxRecDepth 100000 in
theorem law_feed {p : Program} {e : Env} {s : State} {m : MethodId} {below : List Frame} {meth : Method} {c : Code} (l : Launch) (G : va_G) (k : Nat → ClassId) (sa : Nat → Nat) {b : Nat} {xs : Nat → Int32} (C0 : lw_At p s m meth c b 6 xs) (hE : gE G k sa s) {A : Nat → Prop} (hAe : A = fun q => s.heap.size ≤ q) {H : Heap} {locs : List Loc} {ls : Array Slot} (q0 q1 : Nat) (u : Nat → Nat → Nat) (z : Nat → Nat) (hP : va_P G vwCl (ggW k q0 u ++ mmW k q1 z) H) (hD : va_D A (ggW k q0 u ++ mmW k q1 z)) (hS : va_S A s.heap H locs) (hl : lv_has ls 4 [(3, .int 0), (2, .ref q1), (1, .ref q0), (0, .ref b)]) : W p l e room_1 s m #[Value.ref b] below meth c H locs 285 12688 (lw_Z below #[Value.ref b] s) (F0 m 188 ls []) := by
  obtain ⟨hx, hb, hr, hml, hown, hts, hX, hbl, hlocks, hgv⟩ := id C0
  have hts := hts
  have hA : ∀ q : Nat, s.heap.size ≤ q → A q := by rw [hAe]; exact fun _ h => h
  have hbA : ¬ A b := by rw [hAe]; exact Nat.not_le.mpr hbl
  obtain ⟨y1, e1⟩ : ∃ y : Int32, y = xs (1 : Int32).toNatClampNeg := ⟨_, rfl⟩
  obtain ⟨y2, e2⟩ : ∃ y : Int32, y = xs (2 : Int32).toNatClampNeg := ⟨_, rfl⟩
  obtain ⟨y3, e3⟩ : ∃ y : Int32, y = xs (3 : Int32).toNatClampNeg := ⟨_, rfl⟩
  obtain ⟨y4, e4⟩ : ∃ y : Int32, y = xs (4 : Int32).toNatClampNeg := ⟨_, rfl⟩
  obtain ⟨y5, e5⟩ : ∃ y : Int32, y = xs (5 : Int32).toNatClampNeg := ⟨_, rfl⟩
  refine lv_aload_n hx hb dL_law_188 rfl (lv_at hl 2 rfl) ?_
  refine lv_aload_n hx hb dL_law_189 rfl (lv_at hl 3 rfl) ?_
  refine lv_iload_n hx hb dL_law_190 rfl (lv_at hl 0 rfl) ?_
  refine lv_iconst (v := 1) hx hb dL_law_191 (by decide) ?_
  refine lv_iadd hx hb dL_law_192 ?_
  refine gz_ni (v := 1) (by decide) ?_
  refine va_sld hx hb hX hbl hbA hS (gz_in (by decide)) dL_law_193 ?_
  refine gz_ni (v := y1) e1.symm ?_
  refine lv_aload_n hx hb dL_law_194 rfl (lv_at hl 3 rfl) ?_
  refine lv_iload_n hx hb dL_law_195 rfl (lv_at hl 0 rfl) ?_
  refine lv_iconst (v := 2) hx hb dL_law_196 (by decide) ?_
  refine lv_iadd hx hb dL_law_197 ?_
  refine gz_ni (v := 2) (by decide) ?_
  refine va_sld hx hb hX hbl hbA hS (gz_in (by decide)) dL_law_198 ?_
  refine gz_ni (v := y2) e2.symm ?_
  refine lv_aload_n hx hb dL_law_199 rfl (lv_at hl 3 rfl) ?_
  refine lv_iload_n hx hb dL_law_200 rfl (lv_at hl 0 rfl) ?_
  refine lv_iconst (v := 3) hx hb dL_law_201 (by decide) ?_
  refine lv_iadd hx hb dL_law_202 ?_
  refine gz_ni (v := 3) (by decide) ?_
  refine va_sld hx hb hX hbl hbA hS (gz_in (by decide)) dL_law_203 ?_
  refine gz_ni (v := y3) e3.symm ?_
  refine lv_aload_n hx hb dL_law_204 rfl (lv_at hl 3 rfl) ?_
  refine lv_iload_n hx hb dL_law_205 rfl (lv_at hl 0 rfl) ?_
  refine lv_iconst (v := 4) hx hb dL_law_206 (by decide) ?_
  refine lv_iadd hx hb dL_law_207 ?_
  refine gz_ni (v := 4) (by decide) ?_
  refine va_sld hx hb hX hbl hbA hS (gz_in (by decide)) dL_law_208 ?_
  refine gz_ni (v := y4) e4.symm ?_
  refine lv_aload_n hx hb dL_law_209 rfl (lv_at hl 3 rfl) ?_
  refine lv_iload_n hx hb dL_law_210 rfl (lv_at hl 0 rfl) ?_
  refine lv_iconst (v := 5) hx hb dL_law_211 (by decide) ?_
  refine lv_iadd hx hb dL_law_212 ?_
  refine gz_ni (v := 5) (by decide) ?_
  refine va_sld hx hb hX hbl hbA hS (gz_in (by decide)) dL_law_213 ?_
  refine gz_ni (v := y5) e5.symm ?_
  refine gz_i (wc := [(q0, .inr (10, [.ref ((u 0) 0), .ref ((u 0) 1), .ref ((u 0) 2), .ref ((u 0) 3), .ref ((u 0) 4), .int 0, .ref ((u 0) 5), .ref ((u 0) 6), .ref ((u 0) 7), .ref ((u 0) 8), .ref ((u 0) 9), .ref ((u 0) 10), .ref ((u 0) 11), .ref ((u 0) 12), .ref ((u 0) 13), .int 0])), ((u 0) 0, .inr (7, [.ref ((u 0) 14), .int 0])), ((u 0) 14, .inl (k 0, 400, .inl (fun _ => 0)))]) (wr := mmW k q1 z) hP hD hS hA [0, 1, 2] [112, 113, 114, 115, 116, 117, 118, 119, 120, 121, 122, 123, 124, 125, 126, 127, 128, 129, 130, 131, 132, 133] rfl rfl (by decide) (by decide) (va_runV (As := [.int y1, .int y2, .int y3, .int y4, .int y5]) (rest := []) ⟨hx, hb, hml, hown, hts⟩ (c_X10_feed l G k sa _ q0 (u 0) y1 y2 y3 y4 y5) (cwV 5 hts g_L_13_c_X10_feed rfl rfl rfl (by decide +kernel) ⟨(Nat.le_of_ble_eq_true rfl), (Nat.le_of_ble_eq_true rfl)⟩) ⟨gP.bl, va_recv hE.K hP (ci := 10) (q0 := 0) rfl rfl, (gP.pre (wc := [(q0, .inr (10, [.ref ((u 0) 0), .ref ((u 0) 1), .ref ((u 0) 2), .ref ((u 0) 3), .ref ((u 0) 4), .int 0, .ref ((u 0) 5), .ref ((u 0) 6), .ref ((u 0) 7), .ref ((u 0) 8), .ref ((u 0) 9), .ref ((u 0) 10), .ref ((u 0) 11), .ref ((u 0) 12), .ref ((u 0) 13), .int 0])), ((u 0) 0, .inr (7, [.ref ((u 0) 14), .int 0])), ((u 0) 14, .inl (k 0, 400, .inl (fun _ => 0)))]) hE hP hD [0, 1, 2] rfl (by decide))⟩ rfl rfl hl.1 rfl (lv_room (Nat.le_of_ble_eq_true rfl)) dL_law_214 ⟨(Nat.le_of_ble_eq_true rfl), (Nat.le_of_ble_eq_true rfl)⟩) (fun r_2 u_1 H locs hr_2 hP hD hS => ?_)
  have hP : va_P G vwCl (mmW k q1 z) H := hP
  have hD : va_D A (mmW k q1 z) := hD
  obtain rfl : r_2 = 20 := hr_2
  refine lv_aload_n hx hb dL_law_217 rfl (lv_at hl 1 rfl) ?_
  refine lv_aload_n hx hb dL_law_218 rfl (lv_at hl 3 rfl) ?_
  refine lv_iload_n hx hb dL_law_219 rfl (lv_at hl 0 rfl) ?_
  refine lv_iconst (v := 1) hx hb dL_law_220 (by decide) ?_
  refine lv_iadd hx hb dL_law_221 ?_
  refine gz_ni (v := 1) (by decide) ?_
  refine va_sld hx hb hX hbl hbA hS (gz_in (by decide)) dL_law_222 ?_
  refine gz_ni (v := y1) e1.symm ?_
  refine lv_aload_n hx hb dL_law_223 rfl (lv_at hl 3 rfl) ?_
  refine lv_iload_n hx hb dL_law_224 rfl (lv_at hl 0 rfl) ?_
  refine lv_iconst (v := 2) hx hb dL_law_225 (by decide) ?_
  refine lv_iadd hx hb dL_law_226 ?_
  refine gz_ni (v := 2) (by decide) ?_
  refine va_sld hx hb hX hbl hbA hS (gz_in (by decide)) dL_law_227 ?_
  refine gz_ni (v := y2) e2.symm ?_
  refine lv_aload_n hx hb dL_law_228 rfl (lv_at hl 3 rfl) ?_
  refine lv_iload_n hx hb dL_law_229 rfl (lv_at hl 0 rfl) ?_
  refine lv_iconst (v := 3) hx hb dL_law_230 (by decide) ?_
  refine lv_iadd hx hb dL_law_231 ?_
  refine gz_ni (v := 3) (by decide) ?_
  refine va_sld hx hb hX hbl hbA hS (gz_in (by decide)) dL_law_232 ?_
  refine gz_ni (v := y3) e3.symm ?_
  refine lv_aload_n hx hb dL_law_233 rfl (lv_at hl 3 rfl) ?_
  refine lv_iload_n hx hb dL_law_234 rfl (lv_at hl 0 rfl) ?_
  refine lv_iconst (v := 4) hx hb dL_law_235 (by decide) ?_
  refine lv_iadd hx hb dL_law_236 ?_
  refine gz_ni (v := 4) (by decide) ?_
  refine va_sld hx hb hX hbl hbA hS (gz_in (by decide)) dL_law_237 ?_
  refine gz_ni (v := y4) e4.symm ?_
  refine lv_aload_n hx hb dL_law_238 rfl (lv_at hl 3 rfl) ?_
  refine lv_iload_n hx hb dL_law_239 rfl (lv_at hl 0 rfl) ?_
  refine lv_iconst (v := 5) hx hb dL_law_240 (by decide) ?_
  refine lv_iadd hx hb dL_law_241 ?_
  refine gz_ni (v := 5) (by decide) ?_
  refine va_sld hx hb hX hbl hbA hS (gz_in (by decide)) dL_law_242 ?_
  refine gz_ni (v := y5) e5.symm ?_
  refine gz_i (wc := [(q1, .inr (11, [.ref (z 0), .int 0, .int 0, .ref (z 3), .ref (z 4), .ref (z 5), .ref (z 6), .ref (z 7), .int 0, .int 0, .int 0, .int 0, .int 0, .int 0, .int 0, .ref (z 15), .int 0, .ref (z 17), .int 0, .ref (z 19), .ref (z 20), .int (-1), .int 0, .ref (z 23), .int (-1), .int (-1), .int (-1), .int 0, .int (-1), .int 0, .ref (z 30), .int 0, .ref (z 32), .int 0, .int 0, .ref (z 35), .ref (z 36), .ref (z 37), .ref (z 38), .long 0, .ref (z 40), .ref (z 41), .ref (z 42), .ref (z 43)])), (z 0, .inl (k 6, 400, .inl (fun _ => 0)))]) (wr := []) hP hD hS hA [0, 1] [] rfl rfl (by decide) (by decide) (va_runV (As := [.int y1, .int y2, .int y3, .int y4, .int y5]) (rest := [.int 20]) ⟨hx, hb, hml, hown, hts⟩ (m_feed l G k sa _ q1 z y1 y2 y3 y4 y5) (cwV 5 hts g_L_17_m_feed rfl rfl rfl (by decide +kernel) ⟨(Nat.le_of_ble_eq_true rfl), (Nat.le_of_ble_eq_true rfl)⟩) ⟨gP.bl, va_recv hE.K hP (ci := 11) (q0 := 0) rfl rfl, (gP.pre (wc := [(q1, .inr (11, [.ref (z 0), .int 0, .int 0, .ref (z 3), .ref (z 4), .ref (z 5), .ref (z 6), .ref (z 7), .int 0, .int 0, .int 0, .int 0, .int 0, .int 0, .int 0, .ref (z 15), .int 0, .ref (z 17), .int 0, .ref (z 19), .ref (z 20), .int (-1), .int 0, .ref (z 23), .int (-1), .int (-1), .int (-1), .int 0, .int (-1), .int 0, .ref (z 30), .int 0, .ref (z 32), .int 0, .int 0, .ref (z 35), .ref (z 36), .ref (z 37), .ref (z 38), .long 0, .ref (z 40), .ref (z 41), .ref (z 42), .ref (z 43)])), (z 0, .inl (k 6, 400, .inl (fun _ => 0)))]) hE hP hD [0, 1] rfl (by decide))⟩ rfl rfl hl.1 rfl (lv_room (Nat.le_of_ble_eq_true rfl)) dL_law_243 ⟨(Nat.le_of_ble_eq_true rfl), (Nat.le_of_ble_eq_true rfl)⟩) (fun r_4 u_3 H locs hr_4 hP hD hS => ?_)
  have hP : va_P G vwCl [] H := hP
  have hD : va_D A [] := hD
  obtain rfl : r_4 = 20 := hr_4
  refine lv_icmp_eq (tgt := 1253) hx hb dL_law_246 (by decide) (fun _ => ?_) (fun h9 => absurd rfl h9)
  refine lv_iinc (v := 6) (lv' := [(3, .int 6), (2, .ref q1), (1, .ref q0), (0, .ref b)]) hx hb dL_law_1253 hl (k := 0) rfl (by decide) (by decide) rfl (fun ls hl => ?_)
  refine lv_goto (tgt := 18) hx hb dL_law_1256 (by decide) ?_
  refine lv_iload_n hx hb dL_law_18 rfl (lv_at hl 0 rfl) ?_
  refine lv_aload_n hx hb dL_law_19 rfl (lv_at hl 3 rfl) ?_
  refine va_slen hx hb hX hbl hbA hS dL_law_20 ?_
  refine gz_ni (v := 6) (by decide) ?_
  refine lv_bipush (v := 6) hx hb dL_law_21 (by decide) ?_
  refine lv_isub hx hb dL_law_23 ?_
  refine gz_ni (v := 0) (by decide) ?_
  refine lv_icmp_gt (tgt := 1259) hx hb dL_law_24 (by decide) (fun _ => ?_) (fun h9 => absurd h9 (by decide))
  refine lv_iconst (v := 1) hx hb dL_law_1259 (by decide) ?_
  refine va_forget (fun q hq => by have h9 := hS.2.2 q hq; rw [hAe] at h9; exact h9) ?_
  refine W.widen (k := 600000) (n := 7302250) (Nat.le_of_ble_eq_true rfl) (Nat.le_of_ble_eq_true rfl) ?_
  exact lw_ret hx hb hr hlocks dL_law_1260
set_option maxHeartbeats 4000000 in
set_option maxRecDepth 100000 in
theorem law_end {p : Program} {e : Env} {s : State} {m : MethodId} {below : List Frame} {meth : Method} {c : Code} (l : Launch) (G : va_G) (k : Nat → ClassId) (sa : Nat → Nat) {b : Nat} {xs : Nat → Int32} (C0 : lw_At p s m meth c b 6 xs) (hE : gE G k sa s) {A : Nat → Prop} (hAe : A = fun q => s.heap.size ≤ q) {H : Heap} {locs : List Loc} {ls : Array Slot} (q0 q1 : Nat) (u : Nat → Nat → Nat) (z : Nat → Nat) (hP : va_P G vwCl (ggW k q0 u ++ mmW k q1 z) H) (hD : va_D A (ggW k q0 u ++ mmW k q1 z)) (hS : va_S A s.heap H locs) (hl : lv_has ls 4 [(3, .int 0), (2, .ref q1), (1, .ref q0), (0, .ref b)]) : W p l e room_1 s m #[Value.ref b] below meth c H locs 285 12688 (lw_Z below #[Value.ref b] s) (F0 m 251 ls []) := by
  obtain ⟨hx, hb, hr, hml, hown, hts, hX, hbl, hlocks, hgv⟩ := id C0
  have hts := hts
  have hA : ∀ q : Nat, s.heap.size ≤ q → A q := by rw [hAe]; exact fun _ h => h
  have hbA : ¬ A b := by rw [hAe]; exact Nat.not_le.mpr hbl
  obtain ⟨y1, e1⟩ : ∃ y : Int32, y = xs (1 : Int32).toNatClampNeg := ⟨_, rfl⟩
  refine lv_aload_n hx hb dL_law_251 rfl (lv_at hl 2 rfl) ?_
  refine lv_aload_n hx hb dL_law_252 rfl (lv_at hl 3 rfl) ?_
  refine lv_iload_n hx hb dL_law_253 rfl (lv_at hl 0 rfl) ?_
  refine lv_iconst (v := 1) hx hb dL_law_254 (by decide) ?_
  refine lv_iadd hx hb dL_law_255 ?_
  refine gz_ni (v := 1) (by decide) ?_
  refine va_sld hx hb hX hbl hbA hS (gz_in (by decide)) dL_law_256 ?_
  refine gz_ni (v := y1) e1.symm ?_
  refine gz_i (wc := [(q0, .inr (10, [.ref ((u 0) 0), .ref ((u 0) 1), .ref ((u 0) 2), .ref ((u 0) 3), .ref ((u 0) 4), .int 0, .ref ((u 0) 5), .ref ((u 0) 6), .ref ((u 0) 7), .ref ((u 0) 8), .ref ((u 0) 9), .ref ((u 0) 10), .ref ((u 0) 11), .ref ((u 0) 12), .ref ((u 0) 13), .int 0])), ((u 0) 0, .inr (7, [.ref ((u 0) 14), .int 0]))]) (wr := mmW k q1 z) hP hD hS hA [0, 1] [112, 113, 114, 115, 116, 117, 118, 119, 120, 121, 122, 123, 124, 125, 126, 127, 128, 129, 130, 131, 132, 133] rfl rfl (by decide) (by decide) (va_runV (As := [.int y1]) (rest := []) ⟨hx, hb, hml, hown, hts⟩ (c_X10_end l G k sa _ q0 (u 0) y1) (cwV 1 hts g_L_18_c_X10_end rfl rfl rfl (by decide +kernel) ⟨(Nat.le_of_ble_eq_true rfl), (Nat.le_of_ble_eq_true rfl)⟩) ⟨gP.bl, va_recv hE.K hP (ci := 10) (q0 := 0) rfl rfl, (gP.pre (wc := [(q0, .inr (10, [.ref ((u 0) 0), .ref ((u 0) 1), .ref ((u 0) 2), .ref ((u 0) 3), .ref ((u 0) 4), .int 0, .ref ((u 0) 5), .ref ((u 0) 6), .ref ((u 0) 7), .ref ((u 0) 8), .ref ((u 0) 9), .ref ((u 0) 10), .ref ((u 0) 11), .ref ((u 0) 12), .ref ((u 0) 13), .int 0])), ((u 0) 0, .inr (7, [.ref ((u 0) 14), .int 0]))]) hE hP hD [0, 1] rfl (by decide))⟩ rfl rfl hl.1 rfl (lv_room (Nat.le_of_ble_eq_true rfl)) dL_law_257 ⟨(Nat.le_of_ble_eq_true rfl), (Nat.le_of_ble_eq_true rfl)⟩) (fun r_2 u_1 H locs hr_2 hP hD hS => ?_)
  have hP : va_P G vwCl (mmW k q1 z) H := hP
  have hD : va_D A (mmW k q1 z) := hD
  refine lv_aload_n hx hb dL_law_260 rfl (lv_at hl 1 rfl) ?_
  refine lv_aload_n hx hb dL_law_261 rfl (lv_at hl 3 rfl) ?_
  refine lv_iload_n hx hb dL_law_262 rfl (lv_at hl 0 rfl) ?_
  refine lv_iconst (v := 1) hx hb dL_law_263 (by decide) ?_
  refine lv_iadd hx hb dL_law_264 ?_
  refine gz_ni (v := 1) (by decide) ?_
  refine va_sld hx hb hX hbl hbA hS (gz_in (by decide)) dL_law_265 ?_
  refine gz_ni (v := y1) e1.symm ?_
  refine gz_i (wc := [(q1, .inr (11, [.ref (z 0), .int 0, .int 0, .ref (z 3), .ref (z 4), .ref (z 5), .ref (z 6), .ref (z 7), .int 0, .int 0, .int 0, .int 0, .int 0, .int 0, .int 0, .ref (z 15), .int 0, .ref (z 17), .int 0, .ref (z 19), .ref (z 20), .int (-1), .int 0, .ref (z 23), .int (-1), .int (-1), .int (-1), .int 0, .int (-1), .int 0, .ref (z 30), .int 0, .ref (z 32), .int 0, .int 0, .ref (z 35), .ref (z 36), .ref (z 37), .ref (z 38), .long 0, .ref (z 40), .ref (z 41), .ref (z 42), .ref (z 43)]))]) (wr := []) hP hD hS hA [0] [] rfl rfl (by decide) (by decide) (va_runV (As := [.int y1]) (rest := [.int r_2]) ⟨hx, hb, hml, hown, hts⟩ (m_end l G k sa _ q1 z y1) (cwV 1 hts g_L_22_m_end rfl rfl rfl (by decide +kernel) ⟨(Nat.le_of_ble_eq_true rfl), (Nat.le_of_ble_eq_true rfl)⟩) ⟨gP.bl, va_recv hE.K hP (ci := 11) (q0 := 0) rfl rfl, (gP.pre (wc := [(q1, .inr (11, [.ref (z 0), .int 0, .int 0, .ref (z 3), .ref (z 4), .ref (z 5), .ref (z 6), .ref (z 7), .int 0, .int 0, .int 0, .int 0, .int 0, .int 0, .int 0, .ref (z 15), .int 0, .ref (z 17), .int 0, .ref (z 19), .ref (z 20), .int (-1), .int 0, .ref (z 23), .int (-1), .int (-1), .int (-1), .int 0, .int (-1), .int 0, .ref (z 30), .int 0, .ref (z 32), .int 0, .int 0, .ref (z 35), .ref (z 36), .ref (z 37), .ref (z 38), .long 0, .ref (z 40), .ref (z 41), .ref (z 42), .ref (z 43)]))]) hE hP hD [0] rfl (by decide))⟩ rfl rfl hl.1 rfl (lv_room (Nat.le_of_ble_eq_true rfl)) dL_law_266 ⟨(Nat.le_of_ble_eq_true rfl), (Nat.le_of_ble_eq_true rfl)⟩) (fun r_4 u_3 H locs hr_4 hP hD hS => ?_)
  have hP : va_P G vwCl [] H := hP
  have hD : va_D A [] := hD
  refine lv_icmp_eq (tgt := 1253) hx hb dL_law_269 (by decide) (fun _ => ?_) (fun h9 => absurd (gz_ag_end hr_2 hr_4) h9)
  refine lv_iinc (v := 6) (lv' := [(3, .int 6), (2, .ref q1), (1, .ref q0), (0, .ref b)]) hx hb dL_law_1253 hl (k := 0) rfl (by decide) (by decide) rfl (fun ls hl => ?_)
  refine lv_goto (tgt := 18) hx hb dL_law_1256 (by decide) ?_
  refine lv_iload_n hx hb dL_law_18 rfl (lv_at hl 0 rfl) ?_
  refine lv_aload_n hx hb dL_law_19 rfl (lv_at hl 3 rfl) ?_
  refine va_slen hx hb hX hbl hbA hS dL_law_20 ?_
  refine gz_ni (v := 6) (by decide) ?_
  refine lv_bipush (v := 6) hx hb dL_law_21 (by decide) ?_
  refine lv_isub hx hb dL_law_23 ?_
  refine gz_ni (v := 0) (by decide) ?_
  refine lv_icmp_gt (tgt := 1259) hx hb dL_law_24 (by decide) (fun _ => ?_) (fun h9 => absurd h9 (by decide))
  refine lv_iconst (v := 1) hx hb dL_law_1259 (by decide) ?_
  refine va_forget (fun q hq => by have h9 := hS.2.2 q hq; rw [hAe] at h9; exact h9) ?_
  refine W.widen (k := 600000) (n := 7302250) (Nat.le_of_ble_eq_true rfl) (Nat.le_of_ble_eq_true rfl) ?_
  exact lw_ret hx hb hr hlocks dL_law_1260
set_option maxHeartbeats 4000000 in
set_option maxRecDepth 100000 in
theorem law_country {p : Program} {e : Env} {s : State} {m : MethodId} {below : List Frame} {meth : Method} {c : Code} (l : Launch) (G : va_G) (k : Nat → ClassId) (sa : Nat → Nat) {b : Nat} {xs : Nat → Int32} (C0 : lw_At p s m meth c b 6 xs) (hE : gE G k sa s) {A : Nat → Prop} (hAe : A = fun q => s.heap.size ≤ q) {H : Heap} {locs : List Loc} {ls : Array Slot} (q0 q1 : Nat) (u : Nat → Nat → Nat) (z : Nat → Nat) (hP : va_P G vwCl (ggW k q0 u ++ mmW k q1 z) H) (hD : va_D A (ggW k q0 u ++ mmW k q1 z)) (hS : va_S A s.heap H locs) (hl : lv_has ls 4 [(3, .int 0), (2, .ref q1), (1, .ref q0), (0, .ref b)]) : W p l e room_1 s m #[Value.ref b] below meth c H locs 285 12688 (lw_Z below #[Value.ref b] s) (F0 m 274 ls []) := by
  obtain ⟨hx, hb, hr, hml, hown, hts, hX, hbl, hlocks, hgv⟩ := id C0
  have hts := hts
  have hA : ∀ q : Nat, s.heap.size ≤ q → A q := by rw [hAe]; exact fun _ h => h
  have hbA : ¬ A b := by rw [hAe]; exact Nat.not_le.mpr hbl
  refine lv_aload_n hx hb dL_law_274 rfl (lv_at hl 2 rfl) ?_
  refine gz_i (wc := [(q0, .inr (10, [.ref ((u 0) 0), .ref ((u 0) 1), .ref ((u 0) 2), .ref ((u 0) 3), .ref ((u 0) 4), .int 0, .ref ((u 0) 5), .ref ((u 0) 6), .ref ((u 0) 7), .ref ((u 0) 8), .ref ((u 0) 9), .ref ((u 0) 10), .ref ((u 0) 11), .ref ((u 0) 12), .ref ((u 0) 13), .int 0])), ((u 0) 1, .inr (1, [.ref ((u 0) 15)])), ((u 0) 15, .inr (8, [.ref ((u 0) 0), .int 0, .int 0, .int 0, .int (-1), .int 0])), ((u 0) 0, .inr (7, [.ref ((u 0) 14), .int 0])), ((u 0) 3, .inr (0, [.int 0, .int 0, .ref ((u 2) 0), .ref ((u 2) 1), .ref ((u 2) 2), .ref ((u 2) 3)])), ((u 2) 0, .inl (k 0, 12, .inl (fun _ => 0))), ((u 2) 1, .inl (k 0, 12, .inl (fun _ => 0))), ((u 2) 2, .inl (k 0, 6, .inl (fun _ => 0))), ((u 2) 3, .inr (2, [.int 0, .int 0, .long 0, .ref ((u 2) 4), .ref ((u 2) 5), .ref ((u 2) 6), .ref ((u 2) 7)])), ((u 2) 4, .inl (k 0, 6, .inl (fun _ => 0))), ((u 2) 5, .inl (k 0, 6, .inl (fun _ => 0))), ((u 2) 6, .inl (k 0, 6, .inl (fun _ => 0))), ((u 2) 7, .inl (k 0, 6, .inl (fun _ => 0)))]) (wr := mmW k q1 z) hP hD hS hA [0, 3, 4, 1, 10, 11, 12, 13, 14, 15, 16, 17, 18] [112, 113, 114, 115, 116, 117, 118, 119, 120, 121, 122, 123, 124, 125, 126, 127, 128, 129, 130, 131, 132, 133] rfl rfl (by decide) (by decide) (va_runV (As := []) (rest := []) ⟨hx, hb, hml, hown, hts⟩ (c_X10_country l G k sa _ q0 (u 0) (u 2)) (cwV 0 hts g_L_23_c_X10_country rfl rfl rfl (by decide +kernel) ⟨(Nat.le_of_ble_eq_true rfl), (Nat.le_of_ble_eq_true rfl)⟩) ⟨gP.bl, va_recv hE.K hP (ci := 10) (q0 := 0) rfl rfl, (gP.pre (wc := [(q0, .inr (10, [.ref ((u 0) 0), .ref ((u 0) 1), .ref ((u 0) 2), .ref ((u 0) 3), .ref ((u 0) 4), .int 0, .ref ((u 0) 5), .ref ((u 0) 6), .ref ((u 0) 7), .ref ((u 0) 8), .ref ((u 0) 9), .ref ((u 0) 10), .ref ((u 0) 11), .ref ((u 0) 12), .ref ((u 0) 13), .int 0])), ((u 0) 1, .inr (1, [.ref ((u 0) 15)])), ((u 0) 15, .inr (8, [.ref ((u 0) 0), .int 0, .int 0, .int 0, .int (-1), .int 0])), ((u 0) 0, .inr (7, [.ref ((u 0) 14), .int 0])), ((u 0) 3, .inr (0, [.int 0, .int 0, .ref ((u 2) 0), .ref ((u 2) 1), .ref ((u 2) 2), .ref ((u 2) 3)])), ((u 2) 0, .inl (k 0, 12, .inl (fun _ => 0))), ((u 2) 1, .inl (k 0, 12, .inl (fun _ => 0))), ((u 2) 2, .inl (k 0, 6, .inl (fun _ => 0))), ((u 2) 3, .inr (2, [.int 0, .int 0, .long 0, .ref ((u 2) 4), .ref ((u 2) 5), .ref ((u 2) 6), .ref ((u 2) 7)])), ((u 2) 4, .inl (k 0, 6, .inl (fun _ => 0))), ((u 2) 5, .inl (k 0, 6, .inl (fun _ => 0))), ((u 2) 6, .inl (k 0, 6, .inl (fun _ => 0))), ((u 2) 7, .inl (k 0, 6, .inl (fun _ => 0)))]) hE hP hD [0, 3, 4, 1, 10, 11, 12, 13, 14, 15, 16, 17, 18] rfl (by decide))⟩ rfl rfl hl.1 rfl (lv_room (Nat.le_of_ble_eq_true rfl)) dL_law_275 ⟨(Nat.le_of_ble_eq_true rfl), (Nat.le_of_ble_eq_true rfl)⟩) (fun r_2 u_1 H locs hr_2 hP hD hS => ?_)
  have hP : va_P G vwCl (mmW k q1 z) H := hP
  have hD : va_D A (mmW k q1 z) := hD
  obtain rfl : r_2 = (-3) := hr_2
  refine lv_aload_n hx hb dL_law_278 rfl (lv_at hl 1 rfl) ?_
  refine gz_i (wc := [(q1, .inr (11, [.ref (z 0), .int 0, .int 0, .ref (z 3), .ref (z 4), .ref (z 5), .ref (z 6), .ref (z 7), .int 0, .int 0, .int 0, .int 0, .int 0, .int 0, .int 0, .ref (z 15), .int 0, .ref (z 17), .int 0, .ref (z 19), .ref (z 20), .int (-1), .int 0, .ref (z 23), .int (-1), .int (-1), .int (-1), .int 0, .int (-1), .int 0, .ref (z 30), .int 0, .ref (z 32), .int 0, .int 0, .ref (z 35), .ref (z 36), .ref (z 37), .ref (z 38), .long 0, .ref (z 40), .ref (z 41), .ref (z 42), .ref (z 43)])), (z 4, .inl (k 0, 7, .inl (fun _ => 0))), (z 7, .inl (k 0, 175, .inl (fun _ => 0)))]) (wr := []) hP hD hS hA [0, 3, 6] [] rfl rfl (by decide) (by decide) (va_runV (As := []) (rest := [.int (-3)]) ⟨hx, hb, hml, hown, hts⟩ (m_country l G k sa _ q1 z) (cwV 0 hts g_L_27_m_country rfl rfl rfl (by decide +kernel) ⟨(Nat.le_of_ble_eq_true rfl), (Nat.le_of_ble_eq_true rfl)⟩) ⟨gP.bl, va_recv hE.K hP (ci := 11) (q0 := 0) rfl rfl, (gP.pre (wc := [(q1, .inr (11, [.ref (z 0), .int 0, .int 0, .ref (z 3), .ref (z 4), .ref (z 5), .ref (z 6), .ref (z 7), .int 0, .int 0, .int 0, .int 0, .int 0, .int 0, .int 0, .ref (z 15), .int 0, .ref (z 17), .int 0, .ref (z 19), .ref (z 20), .int (-1), .int 0, .ref (z 23), .int (-1), .int (-1), .int (-1), .int 0, .int (-1), .int 0, .ref (z 30), .int 0, .ref (z 32), .int 0, .int 0, .ref (z 35), .ref (z 36), .ref (z 37), .ref (z 38), .long 0, .ref (z 40), .ref (z 41), .ref (z 42), .ref (z 43)])), (z 4, .inl (k 0, 7, .inl (fun _ => 0))), (z 7, .inl (k 0, 175, .inl (fun _ => 0)))]) hE hP hD [0, 3, 6] rfl (by decide))⟩ rfl rfl hl.1 rfl (lv_room (Nat.le_of_ble_eq_true rfl)) dL_law_279 ⟨(Nat.le_of_ble_eq_true rfl), (Nat.le_of_ble_eq_true rfl)⟩) (fun r_4 u_3 H locs hr_4 hP hD hS => ?_)
  have hP : va_P G vwCl [] H := hP
  have hD : va_D A [] := hD
  obtain rfl : r_4 = (-3) := hr_4
  refine lv_icmp_eq (tgt := 1253) hx hb dL_law_282 (by decide) (fun _ => ?_) (fun h9 => absurd rfl h9)
  refine lv_iinc (v := 6) (lv' := [(3, .int 6), (2, .ref q1), (1, .ref q0), (0, .ref b)]) hx hb dL_law_1253 hl (k := 0) rfl (by decide) (by decide) rfl (fun ls hl => ?_)
  refine lv_goto (tgt := 18) hx hb dL_law_1256 (by decide) ?_
  refine lv_iload_n hx hb dL_law_18 rfl (lv_at hl 0 rfl) ?_
  refine lv_aload_n hx hb dL_law_19 rfl (lv_at hl 3 rfl) ?_
  refine va_slen hx hb hX hbl hbA hS dL_law_20 ?_
  refine gz_ni (v := 6) (by decide) ?_
  refine lv_bipush (v := 6) hx hb dL_law_21 (by decide) ?_
  refine lv_isub hx hb dL_law_23 ?_
  refine gz_ni (v := 0) (by decide) ?_
  refine lv_icmp_gt (tgt := 1259) hx hb dL_law_24 (by decide) (fun _ => ?_) (fun h9 => absurd h9 (by decide))
  refine lv_iconst (v := 1) hx hb dL_law_1259 (by decide) ?_
  refine va_forget (fun q hq => by have h9 := hS.2.2 q hq; rw [hAe] at h9; exact h9) ?_
  refine W.widen (k := 600000) (n := 7302250) (Nat.le_of_ble_eq_true rfl) (Nat.le_of_ble_eq_true rfl) ?_
  exact lw_ret hx hb hr hlocks dL_law_1260
set_option maxHeartbeats 4000000 in
set_option maxRecDepth 100000 in
theorem law_rule {p : Program} {e : Env} {s : State} {m : MethodId} {below : List Frame} {meth : Method} {c : Code} (l : Launch) (G : va_G) (k : Nat → ClassId) (sa : Nat → Nat) {b : Nat} {xs : Nat → Int32} (C0 : lw_At p s m meth c b 6 xs) (hE : gE G k sa s) {A : Nat → Prop} (hAe : A = fun q => s.heap.size ≤ q) {H : Heap} {locs : List Loc} {ls : Array Slot} (q0 q1 : Nat) (u : Nat → Nat → Nat) (z : Nat → Nat) (hP : va_P G vwCl (ggW k q0 u ++ mmW k q1 z) H) (hD : va_D A (ggW k q0 u ++ mmW k q1 z)) (hS : va_S A s.heap H locs) (hl : lv_has ls 4 [(3, .int 0), (2, .ref q1), (1, .ref q0), (0, .ref b)]) : W p l e room_1 s m #[Value.ref b] below meth c H locs 285 12688 (lw_Z below #[Value.ref b] s) (F0 m 287 ls []) := by
  obtain ⟨hx, hb, hr, hml, hown, hts, hX, hbl, hlocks, hgv⟩ := id C0
  have hts := hts
  have hA : ∀ q : Nat, s.heap.size ≤ q → A q := by rw [hAe]; exact fun _ h => h
  have hbA : ¬ A b := by rw [hAe]; exact Nat.not_le.mpr hbl
  refine lv_aload_n hx hb dL_law_287 rfl (lv_at hl 2 rfl) ?_
  refine gz_i (wc := [(q0, .inr (10, [.ref ((u 0) 0), .ref ((u 0) 1), .ref ((u 0) 2), .ref ((u 0) 3), .ref ((u 0) 4), .int 0, .ref ((u 0) 5), .ref ((u 0) 6), .ref ((u 0) 7), .ref ((u 0) 8), .ref ((u 0) 9), .ref ((u 0) 10), .ref ((u 0) 11), .ref ((u 0) 12), .ref ((u 0) 13), .int 0])), ((u 0) 2, .inr (6, [.ref ((u 0) 16), .ref ((u 0) 17), .int 0])), ((u 0) 16, .inr (8, [.ref ((u 0) 0), .int 0, .int 0, .int 0, .int (-1), .int 0])), ((u 0) 0, .inr (7, [.ref ((u 0) 14), .int 0])), ((u 0) 17, .inr (5, [.ref ((u 1) 0), .ref ((u 1) 1), .ref ((u 1) 2), .ref ((u 1) 3), .int 0, .int 0])), ((u 1) 1, .inl (k 0, 12, .inl (fun _ => 0))), ((u 1) 2, .inl (k 0, 12, .inl (fun _ => 0))), ((u 0) 4, .inl (k 3, 6, .inr (.inr (.inr (.inr (va_up (va_up (va_up (va_up (va_up (va_up (fun _ => none) 0 (some ((u 0) 20))) 1 (some ((u 0) 21))) 2 (some ((u 0) 22))) 3 (some ((u 0) 23))) 4 (some ((u 0) 24))) 5 (some ((u 0) 25))))))))]) (wr := mmW k q1 z) hP hD hS hA [0, 5, 6, 1, 7, 8, 9, 19] [112, 113, 114, 115, 116, 117, 118, 119, 120, 121, 122, 123, 124, 125, 126, 127, 128, 129, 130, 131, 132, 133] rfl rfl (by decide) (by decide) (va_runV (As := []) (rest := []) ⟨hx, hb, hml, hown, hts⟩ (c_X10_rule l G k sa _ q0 (u 0) (u 1)) (cwV 0 hts g_L_28_c_X10_rule rfl rfl rfl (by decide +kernel) ⟨(Nat.le_of_ble_eq_true rfl), (Nat.le_of_ble_eq_true rfl)⟩) ⟨gP.bl, va_recv hE.K hP (ci := 10) (q0 := 0) rfl rfl, (gP.pre (wc := [(q0, .inr (10, [.ref ((u 0) 0), .ref ((u 0) 1), .ref ((u 0) 2), .ref ((u 0) 3), .ref ((u 0) 4), .int 0, .ref ((u 0) 5), .ref ((u 0) 6), .ref ((u 0) 7), .ref ((u 0) 8), .ref ((u 0) 9), .ref ((u 0) 10), .ref ((u 0) 11), .ref ((u 0) 12), .ref ((u 0) 13), .int 0])), ((u 0) 2, .inr (6, [.ref ((u 0) 16), .ref ((u 0) 17), .int 0])), ((u 0) 16, .inr (8, [.ref ((u 0) 0), .int 0, .int 0, .int 0, .int (-1), .int 0])), ((u 0) 0, .inr (7, [.ref ((u 0) 14), .int 0])), ((u 0) 17, .inr (5, [.ref ((u 1) 0), .ref ((u 1) 1), .ref ((u 1) 2), .ref ((u 1) 3), .int 0, .int 0])), ((u 1) 1, .inl (k 0, 12, .inl (fun _ => 0))), ((u 1) 2, .inl (k 0, 12, .inl (fun _ => 0))), ((u 0) 4, .inl (k 3, 6, .inr (.inr (.inr (.inr (va_up (va_up (va_up (va_up (va_up (va_up (fun _ => none) 0 (some ((u 0) 20))) 1 (some ((u 0) 21))) 2 (some ((u 0) 22))) 3 (some ((u 0) 23))) 4 (some ((u 0) 24))) 5 (some ((u 0) 25))))))))]) hE hP hD [0, 5, 6, 1, 7, 8, 9, 19] rfl (by decide))⟩ rfl rfl hl.1 rfl (lv_room (Nat.le_of_ble_eq_true rfl)) dL_law_288 ⟨(Nat.le_of_ble_eq_true rfl), (Nat.le_of_ble_eq_true rfl)⟩) (fun r_2 u_1 H locs hr_2 hP hD hS => ?_)
  have hP : va_P G vwCl (mmW k q1 z) H := hP
  have hD : va_D A (mmW k q1 z) := hD
  obtain rfl : r_2 = (-3) := hr_2
  refine lv_aload_n hx hb dL_law_291 rfl (lv_at hl 1 rfl) ?_
  refine gz_i (wc := [(q1, .inr (11, [.ref (z 0), .int 0, .int 0, .ref (z 3), .ref (z 4), .ref (z 5), .ref (z 6), .ref (z 7), .int 0, .int 0, .int 0, .int 0, .int 0, .int 0, .int 0, .ref (z 15), .int 0, .ref (z 17), .int 0, .ref (z 19), .ref (z 20), .int (-1), .int 0, .ref (z 23), .int (-1), .int (-1), .int (-1), .int 0, .int (-1), .int 0, .ref (z 30), .int 0, .ref (z 32), .int 0, .int 0, .ref (z 35), .ref (z 36), .ref (z 37), .ref (z 38), .long 0, .ref (z 40), .ref (z 41), .ref (z 42), .ref (z 43)])), (z 4, .inl (k 0, 7, .inl (fun _ => 0))), (z 6, .inl (k 0, 6, .inl (fun _ => 0)))]) (wr := []) hP hD hS hA [0, 3, 5] [] rfl rfl (by decide) (by decide) (va_runV (As := []) (rest := [.int (-3)]) ⟨hx, hb, hml, hown, hts⟩ (m_rule l G k sa _ q1 z) (cwV 0 hts g_L_31_m_rule rfl rfl rfl (by decide +kernel) ⟨(Nat.le_of_ble_eq_true rfl), (Nat.le_of_ble_eq_true rfl)⟩) ⟨gP.bl, va_recv hE.K hP (ci := 11) (q0 := 0) rfl rfl, (gP.pre (wc := [(q1, .inr (11, [.ref (z 0), .int 0, .int 0, .ref (z 3), .ref (z 4), .ref (z 5), .ref (z 6), .ref (z 7), .int 0, .int 0, .int 0, .int 0, .int 0, .int 0, .int 0, .ref (z 15), .int 0, .ref (z 17), .int 0, .ref (z 19), .ref (z 20), .int (-1), .int 0, .ref (z 23), .int (-1), .int (-1), .int (-1), .int 0, .int (-1), .int 0, .ref (z 30), .int 0, .ref (z 32), .int 0, .int 0, .ref (z 35), .ref (z 36), .ref (z 37), .ref (z 38), .long 0, .ref (z 40), .ref (z 41), .ref (z 42), .ref (z 43)])), (z 4, .inl (k 0, 7, .inl (fun _ => 0))), (z 6, .inl (k 0, 6, .inl (fun _ => 0)))]) hE hP hD [0, 3, 5] rfl (by decide))⟩ rfl rfl hl.1 rfl (lv_room (Nat.le_of_ble_eq_true rfl)) dL_law_292 ⟨(Nat.le_of_ble_eq_true rfl), (Nat.le_of_ble_eq_true rfl)⟩) (fun r_4 u_3 H locs hr_4 hP hD hS => ?_)
  have hP : va_P G vwCl [] H := hP
  have hD : va_D A [] := hD
  obtain rfl : r_4 = (-3) := hr_4
  refine lv_icmp_eq (tgt := 1253) hx hb dL_law_295 (by decide) (fun _ => ?_) (fun h9 => absurd rfl h9)
  refine lv_iinc (v := 6) (lv' := [(3, .int 6), (2, .ref q1), (1, .ref q0), (0, .ref b)]) hx hb dL_law_1253 hl (k := 0) rfl (by decide) (by decide) rfl (fun ls hl => ?_)
  refine lv_goto (tgt := 18) hx hb dL_law_1256 (by decide) ?_
  refine lv_iload_n hx hb dL_law_18 rfl (lv_at hl 0 rfl) ?_
  refine lv_aload_n hx hb dL_law_19 rfl (lv_at hl 3 rfl) ?_
  refine va_slen hx hb hX hbl hbA hS dL_law_20 ?_
  refine gz_ni (v := 6) (by decide) ?_
  refine lv_bipush (v := 6) hx hb dL_law_21 (by decide) ?_
  refine lv_isub hx hb dL_law_23 ?_
  refine gz_ni (v := 0) (by decide) ?_
  refine lv_icmp_gt (tgt := 1259) hx hb dL_law_24 (by decide) (fun _ => ?_) (fun h9 => absurd h9 (by decide))
  refine lv_iconst (v := 1) hx hb dL_law_1259 (by decide) ?_
  refine va_forget (fun q hq => by have h9 := hS.2.2 q hq; rw [hAe] at h9; exact h9) ?_
  refine W.widen (k := 600000) (n := 7302250) (Nat.le_of_ble_eq_true rfl) (Nat.le_of_ble_eq_true rfl) ?_
  exact lw_ret hx hb hr hlocks dL_law_1260
set_option maxHeartbeats 4000000 in
set_option maxRecDepth 100000 in
theorem law_force {p : Program} {e : Env} {s : State} {m : MethodId} {below : List Frame} {meth : Method} {c : Code} (l : Launch) (G : va_G) (k : Nat → ClassId) (sa : Nat → Nat) {b : Nat} {xs : Nat → Int32} (C0 : lw_At p s m meth c b 6 xs) (hE : gE G k sa s) {A : Nat → Prop} (hAe : A = fun q => s.heap.size ≤ q) {H : Heap} {locs : List Loc} {ls : Array Slot} (q0 q1 : Nat) (u : Nat → Nat → Nat) (z : Nat → Nat) (hP : va_P G vwCl (ggW k q0 u ++ mmW k q1 z) H) (hD : va_D A (ggW k q0 u ++ mmW k q1 z)) (hS : va_S A s.heap H locs) (hl : lv_has ls 4 [(3, .int 0), (2, .ref q1), (1, .ref q0), (0, .ref b)]) : W p l e room_1 s m #[Value.ref b] below meth c H locs 285 12688 (lw_Z below #[Value.ref b] s) (F0 m 300 ls []) := by
  obtain ⟨hx, hb, hr, hml, hown, hts, hX, hbl, hlocks, hgv⟩ := id C0
  have hts := hts
  have hA : ∀ q : Nat, s.heap.size ≤ q → A q := by rw [hAe]; exact fun _ h => h
  have hbA : ¬ A b := by rw [hAe]; exact Nat.not_le.mpr hbl
  obtain ⟨y1, e1⟩ : ∃ y : Int32, y = xs (1 : Int32).toNatClampNeg := ⟨_, rfl⟩
  refine lv_aload_n hx hb dL_law_300 rfl (lv_at hl 2 rfl) ?_
  refine lv_aload_n hx hb dL_law_301 rfl (lv_at hl 3 rfl) ?_
  refine lv_iload_n hx hb dL_law_302 rfl (lv_at hl 0 rfl) ?_
  refine lv_iconst (v := 1) hx hb dL_law_303 (by decide) ?_
  refine lv_iadd hx hb dL_law_304 ?_
  refine gz_ni (v := 1) (by decide) ?_
  refine va_sld hx hb hX hbl hbA hS (gz_in (by decide)) dL_law_305 ?_
  refine gz_ni (v := y1) e1.symm ?_
  refine gz_i (wc := [(q0, .inr (10, [.ref ((u 0) 0), .ref ((u 0) 1), .ref ((u 0) 2), .ref ((u 0) 3), .ref ((u 0) 4), .int 0, .ref ((u 0) 5), .ref ((u 0) 6), .ref ((u 0) 7), .ref ((u 0) 8), .ref ((u 0) 9), .ref ((u 0) 10), .ref ((u 0) 11), .ref ((u 0) 12), .ref ((u 0) 13), .int 0])), ((u 0) 5, .inr (9, [.ref ((u 3) 0), .ref ((u 3) 1), .ref ((u 3) 2), .ref ((u 3) 3), .ref ((u 3) 4), .int 0, .int 0, .int (-1), .int 0]))]) (wr := mmW k q1 z) hP hD hS hA [0, 20] [112, 113, 114, 115, 116, 117, 118, 119, 120, 121, 122, 123, 124, 125, 126, 127, 128, 129, 130, 131, 132, 133] rfl rfl (by decide) (by decide) (va_runV (As := [.int y1]) (rest := []) ⟨hx, hb, hml, hown, hts⟩ (c_X10_force l G k sa _ q0 (u 0) (u 3) y1) (cwV 1 hts g_L_32_c_X10_force rfl rfl rfl (by decide +kernel) ⟨(Nat.le_of_ble_eq_true rfl), (Nat.le_of_ble_eq_true rfl)⟩) ⟨gP.bl, va_recv hE.K hP (ci := 10) (q0 := 0) rfl rfl, (gP.pre (wc := [(q0, .inr (10, [.ref ((u 0) 0), .ref ((u 0) 1), .ref ((u 0) 2), .ref ((u 0) 3), .ref ((u 0) 4), .int 0, .ref ((u 0) 5), .ref ((u 0) 6), .ref ((u 0) 7), .ref ((u 0) 8), .ref ((u 0) 9), .ref ((u 0) 10), .ref ((u 0) 11), .ref ((u 0) 12), .ref ((u 0) 13), .int 0])), ((u 0) 5, .inr (9, [.ref ((u 3) 0), .ref ((u 3) 1), .ref ((u 3) 2), .ref ((u 3) 3), .ref ((u 3) 4), .int 0, .int 0, .int (-1), .int 0]))]) hE hP hD [0, 20] rfl (by decide))⟩ rfl rfl hl.1 rfl (lv_room (Nat.le_of_ble_eq_true rfl)) dL_law_306 ⟨(Nat.le_of_ble_eq_true rfl), (Nat.le_of_ble_eq_true rfl)⟩) (fun r_2 u_1 H locs hr_2 hP hD hS => ?_)
  have hP : va_P G vwCl (mmW k q1 z) H := hP
  have hD : va_D A (mmW k q1 z) := hD
  refine lv_aload_n hx hb dL_law_309 rfl (lv_at hl 1 rfl) ?_
  refine lv_aload_n hx hb dL_law_310 rfl (lv_at hl 3 rfl) ?_
  refine lv_iload_n hx hb dL_law_311 rfl (lv_at hl 0 rfl) ?_
  refine lv_iconst (v := 1) hx hb dL_law_312 (by decide) ?_
  refine lv_iadd hx hb dL_law_313 ?_
  refine gz_ni (v := 1) (by decide) ?_
  refine va_sld hx hb hX hbl hbA hS (gz_in (by decide)) dL_law_314 ?_
  refine gz_ni (v := y1) e1.symm ?_
  refine gz_i (wc := [(q1, .inr (11, [.ref (z 0), .int 0, .int 0, .ref (z 3), .ref (z 4), .ref (z 5), .ref (z 6), .ref (z 7), .int 0, .int 0, .int 0, .int 0, .int 0, .int 0, .int 0, .ref (z 15), .int 0, .ref (z 17), .int 0, .ref (z 19), .ref (z 20), .int (-1), .int 0, .ref (z 23), .int (-1), .int (-1), .int (-1), .int 0, .int (-1), .int 0, .ref (z 30), .int 0, .ref (z 32), .int 0, .int 0, .ref (z 35), .ref (z 36), .ref (z 37), .ref (z 38), .long 0, .ref (z 40), .ref (z 41), .ref (z 42), .ref (z 43)]))]) (wr := []) hP hD hS hA [0] [] rfl rfl (by decide) (by decide) (va_runV (As := [.int y1]) (rest := [.int r_2]) ⟨hx, hb, hml, hown, hts⟩ (m_force l G k sa _ q1 z y1) (cwV 1 hts g_L_35_m_force rfl rfl rfl (by decide +kernel) ⟨(Nat.le_of_ble_eq_true rfl), (Nat.le_of_ble_eq_true rfl)⟩) ⟨gP.bl, va_recv hE.K hP (ci := 11) (q0 := 0) rfl rfl, (gP.pre (wc := [(q1, .inr (11, [.ref (z 0), .int 0, .int 0, .ref (z 3), .ref (z 4), .ref (z 5), .ref (z 6), .ref (z 7), .int 0, .int 0, .int 0, .int 0, .int 0, .int 0, .int 0, .ref (z 15), .int 0, .ref (z 17), .int 0, .ref (z 19), .ref (z 20), .int (-1), .int 0, .ref (z 23), .int (-1), .int (-1), .int (-1), .int 0, .int (-1), .int 0, .ref (z 30), .int 0, .ref (z 32), .int 0, .int 0, .ref (z 35), .ref (z 36), .ref (z 37), .ref (z 38), .long 0, .ref (z 40), .ref (z 41), .ref (z 42), .ref (z 43)]))]) hE hP hD [0] rfl (by decide))⟩ rfl rfl hl.1 rfl (lv_room (Nat.le_of_ble_eq_true rfl)) dL_law_315 ⟨(Nat.le_of_ble_eq_true rfl), (Nat.le_of_ble_eq_true rfl)⟩) (fun r_4 u_3 H locs hr_4 hP hD hS => ?_)
  have hP : va_P G vwCl [] H := hP
  have hD : va_D A [] := hD
  refine lv_icmp_eq (tgt := 1253) hx hb dL_law_318 (by decide) (fun _ => ?_) (fun h9 => absurd (gz_ag_force hr_2 hr_4) h9)
  refine lv_iinc (v := 6) (lv' := [(3, .int 6), (2, .ref q1), (1, .ref q0), (0, .ref b)]) hx hb dL_law_1253 hl (k := 0) rfl (by decide) (by decide) rfl (fun ls hl => ?_)
  refine lv_goto (tgt := 18) hx hb dL_law_1256 (by decide) ?_
  refine lv_iload_n hx hb dL_law_18 rfl (lv_at hl 0 rfl) ?_
  refine lv_aload_n hx hb dL_law_19 rfl (lv_at hl 3 rfl) ?_
  refine va_slen hx hb hX hbl hbA hS dL_law_20 ?_
  refine gz_ni (v := 6) (by decide) ?_
  refine lv_bipush (v := 6) hx hb dL_law_21 (by decide) ?_
  refine lv_isub hx hb dL_law_23 ?_
  refine gz_ni (v := 0) (by decide) ?_
  refine lv_icmp_gt (tgt := 1259) hx hb dL_law_24 (by decide) (fun _ => ?_) (fun h9 => absurd h9 (by decide))
  refine lv_iconst (v := 1) hx hb dL_law_1259 (by decide) ?_
  refine va_forget (fun q hq => by have h9 := hS.2.2 q hq; rw [hAe] at h9; exact h9) ?_
  refine W.widen (k := 600000) (n := 7302250) (Nat.le_of_ble_eq_true rfl) (Nat.le_of_ble_eq_true rfl) ?_
  exact lw_ret hx hb hr hlocks dL_law_1260
set_option maxHeartbeats 4000000 in
set_option maxRecDepth 100000 in
theorem law_person {p : Program} {e : Env} {s : State} {m : MethodId} {below : List Frame} {meth : Method} {c : Code} (l : Launch) (G : va_G) (k : Nat → ClassId) (sa : Nat → Nat) {b : Nat} {xs : Nat → Int32} (C0 : lw_At p s m meth c b 6 xs) (hE : gE G k sa s) {A : Nat → Prop} (hAe : A = fun q => s.heap.size ≤ q) {H : Heap} {locs : List Loc} {ls : Array Slot} (q0 q1 : Nat) (u : Nat → Nat → Nat) (z : Nat → Nat) (hP : va_P G vwCl (ggW k q0 u ++ mmW k q1 z) H) (hD : va_D A (ggW k q0 u ++ mmW k q1 z)) (hS : va_S A s.heap H locs) (hl : lv_has ls 4 [(3, .int 0), (2, .ref q1), (1, .ref q0), (0, .ref b)]) : W p l e room_1 s m #[Value.ref b] below meth c H locs 285 12688 (lw_Z below #[Value.ref b] s) (F0 m 323 ls []) := by
  obtain ⟨hx, hb, hr, hml, hown, hts, hX, hbl, hlocks, hgv⟩ := id C0
  have hts := hts
  have hA : ∀ q : Nat, s.heap.size ≤ q → A q := by rw [hAe]; exact fun _ h => h
  have hbA : ¬ A b := by rw [hAe]; exact Nat.not_le.mpr hbl
  obtain ⟨y1, e1⟩ : ∃ y : Int32, y = xs (1 : Int32).toNatClampNeg := ⟨_, rfl⟩
  obtain ⟨y2, e2⟩ : ∃ y : Int32, y = xs (2 : Int32).toNatClampNeg := ⟨_, rfl⟩
  refine lv_aload_n hx hb dL_law_323 rfl (lv_at hl 2 rfl) ?_
  refine lv_aload_n hx hb dL_law_324 rfl (lv_at hl 3 rfl) ?_
  refine lv_iload_n hx hb dL_law_325 rfl (lv_at hl 0 rfl) ?_
  refine lv_iconst (v := 1) hx hb dL_law_326 (by decide) ?_
  refine lv_iadd hx hb dL_law_327 ?_
  refine gz_ni (v := 1) (by decide) ?_
  refine va_sld hx hb hX hbl hbA hS (gz_in (by decide)) dL_law_328 ?_
  refine gz_ni (v := y1) e1.symm ?_
  refine lv_aload_n hx hb dL_law_329 rfl (lv_at hl 3 rfl) ?_
  refine lv_iload_n hx hb dL_law_330 rfl (lv_at hl 0 rfl) ?_
  refine lv_iconst (v := 2) hx hb dL_law_331 (by decide) ?_
  refine lv_iadd hx hb dL_law_332 ?_
  refine gz_ni (v := 2) (by decide) ?_
  refine va_sld hx hb hX hbl hbA hS (gz_in (by decide)) dL_law_333 ?_
  refine gz_ni (v := y2) e2.symm ?_
  refine vp_callSi (W.runV (As := [.int y1, .int y2]) (rest := []) ⟨hx, hb, hml, hown, hts⟩ (c_X10_person l G k sa q0 (u 0) (u 3) y1 y2) (cwV 2 hts g_L_36_c_X10_person rfl rfl rfl (by decide +kernel) ⟨(Nat.le_of_ble_eq_true rfl), (Nat.le_of_ble_eq_true rfl)⟩) ⟨gR.bl, va_recv hE.K hP (ci := 10) (q0 := 0) rfl rfl, (gR.pre (wc := [(q0, .inr (10, [.ref ((u 0) 0), .ref ((u 0) 1), .ref ((u 0) 2), .ref ((u 0) 3), .ref ((u 0) 4), .int 0, .ref ((u 0) 5), .ref ((u 0) 6), .ref ((u 0) 7), .ref ((u 0) 8), .ref ((u 0) 9), .ref ((u 0) 10), .ref ((u 0) 11), .ref ((u 0) 12), .ref ((u 0) 13), .int 0])), ((u 0) 5, .inr (9, [.ref ((u 3) 0), .ref ((u 3) 1), .ref ((u 3) 2), .ref ((u 3) 3), .ref ((u 3) 4), .int 0, .int 0, .int (-1), .int 0])), ((u 3) 1, .inr (2, [.int 0, .int 0, .long 0, .ref ((u 3) 13), .ref ((u 3) 14), .ref ((u 3) 15), .ref ((u 3) 16)]))]) hE hP [0, 20, 33] rfl)⟩ rfl rfl hl.1 rfl (lv_room (Nat.le_of_ble_eq_true rfl)) dL_law_334 ⟨(Nat.le_of_ble_eq_true rfl), (Nat.le_of_ble_eq_true rfl)⟩) (fun r_1 hr_1 => ?_)
  obtain rfl : r_1 = (-2) := hr_1
  refine lv_aload_n hx hb dL_law_337 rfl (lv_at hl 1 rfl) ?_
  refine lv_aload_n hx hb dL_law_338 rfl (lv_at hl 3 rfl) ?_
  refine lv_iload_n hx hb dL_law_339 rfl (lv_at hl 0 rfl) ?_
  refine lv_iconst (v := 1) hx hb dL_law_340 (by decide) ?_
  refine lv_iadd hx hb dL_law_341 ?_
  refine gz_ni (v := 1) (by decide) ?_
  refine va_sld hx hb hX hbl hbA hS (gz_in (by decide)) dL_law_342 ?_
  refine gz_ni (v := y1) e1.symm ?_
  refine lv_aload_n hx hb dL_law_343 rfl (lv_at hl 3 rfl) ?_
  refine lv_iload_n hx hb dL_law_344 rfl (lv_at hl 0 rfl) ?_
  refine lv_iconst (v := 2) hx hb dL_law_345 (by decide) ?_
  refine lv_iadd hx hb dL_law_346 ?_
  refine gz_ni (v := 2) (by decide) ?_
  refine va_sld hx hb hX hbl hbA hS (gz_in (by decide)) dL_law_347 ?_
  refine gz_ni (v := y2) e2.symm ?_
  refine vp_callSi (W.runV (As := [.int y1, .int y2]) (rest := [.int (-2)]) ⟨hx, hb, hml, hown, hts⟩ (m_person l G k sa q1 z y1 y2) (cwV 2 hts g_L_40_m_person rfl rfl rfl (by decide +kernel) ⟨(Nat.le_of_ble_eq_true rfl), (Nat.le_of_ble_eq_true rfl)⟩) ⟨gR.bl, va_recv hE.K hP (ci := 11) (q0 := 112) rfl rfl, (gR.pre (wc := [(q1, .inr (11, [.ref (z 0), .int 0, .int 0, .ref (z 3), .ref (z 4), .ref (z 5), .ref (z 6), .ref (z 7), .int 0, .int 0, .int 0, .int 0, .int 0, .int 0, .int 0, .ref (z 15), .int 0, .ref (z 17), .int 0, .ref (z 19), .ref (z 20), .int (-1), .int 0, .ref (z 23), .int (-1), .int (-1), .int (-1), .int 0, .int (-1), .int 0, .ref (z 30), .int 0, .ref (z 32), .int 0, .int 0, .ref (z 35), .ref (z 36), .ref (z 37), .ref (z 38), .long 0, .ref (z 40), .ref (z 41), .ref (z 42), .ref (z 43)])), (z 20, .inl (k 0, 206, .inl (fun _ => 0)))]) hE hP [112, 122] rfl)⟩ rfl rfl hl.1 rfl (lv_room (Nat.le_of_ble_eq_true rfl)) dL_law_348 ⟨(Nat.le_of_ble_eq_true rfl), (Nat.le_of_ble_eq_true rfl)⟩) (fun r_2 hr_2 => ?_)
  obtain rfl : r_2 = (-2) := hr_2
  refine lv_icmp_eq (tgt := 1253) hx hb dL_law_351 (by decide) (fun _ => ?_) (fun h9 => absurd rfl h9)
  refine lv_iinc (v := 6) (lv' := [(3, .int 6), (2, .ref q1), (1, .ref q0), (0, .ref b)]) hx hb dL_law_1253 hl (k := 0) rfl (by decide) (by decide) rfl (fun ls hl => ?_)
  refine lv_goto (tgt := 18) hx hb dL_law_1256 (by decide) ?_
  refine lv_iload_n hx hb dL_law_18 rfl (lv_at hl 0 rfl) ?_
  refine lv_aload_n hx hb dL_law_19 rfl (lv_at hl 3 rfl) ?_
  refine va_slen hx hb hX hbl hbA hS dL_law_20 ?_
  refine gz_ni (v := 6) (by decide) ?_
  refine lv_bipush (v := 6) hx hb dL_law_21 (by decide) ?_
  refine lv_isub hx hb dL_law_23 ?_
  refine gz_ni (v := 0) (by decide) ?_
  refine lv_icmp_gt (tgt := 1259) hx hb dL_law_24 (by decide) (fun _ => ?_) (fun h9 => absurd h9 (by decide))
  refine lv_iconst (v := 1) hx hb dL_law_1259 (by decide) ?_
  refine va_forget (fun q hq => by have h9 := hS.2.2 q hq; rw [hAe] at h9; exact h9) ?_
  refine W.widen (k := 600000) (n := 7302250) (Nat.le_of_ble_eq_true rfl) (Nat.le_of_ble_eq_true rfl) ?_
  exact lw_ret hx hb hr hlocks dL_law_1260
set_option maxHeartbeats 4000000 in
set_option maxRecDepth 100000 in
theorem law_wind {p : Program} {e : Env} {s : State} {m : MethodId} {below : List Frame} {meth : Method} {c : Code} (l : Launch) (G : va_G) (k : Nat → ClassId) (sa : Nat → Nat) {b : Nat} {xs : Nat → Int32} (C0 : lw_At p s m meth c b 6 xs) (hE : gE G k sa s) {A : Nat → Prop} (hAe : A = fun q => s.heap.size ≤ q) {H : Heap} {locs : List Loc} {ls : Array Slot} (q0 q1 : Nat) (u : Nat → Nat → Nat) (z : Nat → Nat) (hP : va_P G vwCl (ggW k q0 u ++ mmW k q1 z) H) (hD : va_D A (ggW k q0 u ++ mmW k q1 z)) (hS : va_S A s.heap H locs) (hl : lv_has ls 4 [(3, .int 0), (2, .ref q1), (1, .ref q0), (0, .ref b)]) : W p l e room_1 s m #[Value.ref b] below meth c H locs 285 12688 (lw_Z below #[Value.ref b] s) (F0 m 356 ls []) := by
  obtain ⟨hx, hb, hr, hml, hown, hts, hX, hbl, hlocks, hgv⟩ := id C0
  have hts := hts
  have hA : ∀ q : Nat, s.heap.size ≤ q → A q := by rw [hAe]; exact fun _ h => h
  have hbA : ¬ A b := by rw [hAe]; exact Nat.not_le.mpr hbl
  obtain ⟨y1, e1⟩ : ∃ y : Int32, y = xs (1 : Int32).toNatClampNeg := ⟨_, rfl⟩
  obtain ⟨y2, e2⟩ : ∃ y : Int32, y = xs (2 : Int32).toNatClampNeg := ⟨_, rfl⟩
  refine lv_aload_n hx hb dL_law_356 rfl (lv_at hl 2 rfl) ?_
  refine lv_aload_n hx hb dL_law_357 rfl (lv_at hl 3 rfl) ?_
  refine lv_iload_n hx hb dL_law_358 rfl (lv_at hl 0 rfl) ?_
  refine lv_iconst (v := 1) hx hb dL_law_359 (by decide) ?_
  refine lv_iadd hx hb dL_law_360 ?_
  refine gz_ni (v := 1) (by decide) ?_
  refine va_sld hx hb hX hbl hbA hS (gz_in (by decide)) dL_law_361 ?_
  refine gz_ni (v := y1) e1.symm ?_
  refine lv_aload_n hx hb dL_law_362 rfl (lv_at hl 3 rfl) ?_
  refine lv_iload_n hx hb dL_law_363 rfl (lv_at hl 0 rfl) ?_
  refine lv_iconst (v := 2) hx hb dL_law_364 (by decide) ?_
  refine lv_iadd hx hb dL_law_365 ?_
  refine gz_ni (v := 2) (by decide) ?_
  refine va_sld hx hb hX hbl hbA hS (gz_in (by decide)) dL_law_366 ?_
  refine gz_ni (v := y2) e2.symm ?_
  refine vp_callSi (W.runV (As := [.int y1, .int y2]) (rest := []) ⟨hx, hb, hml, hown, hts⟩ (c_X10_wind l G k sa q0 (u 0) (u 3) y1 y2) (cwV 2 hts g_L_41_c_X10_wind rfl rfl rfl (by decide +kernel) ⟨(Nat.le_of_ble_eq_true rfl), (Nat.le_of_ble_eq_true rfl)⟩) ⟨gR.bl, va_recv hE.K hP (ci := 10) (q0 := 0) rfl rfl, (gR.pre (wc := [(q0, .inr (10, [.ref ((u 0) 0), .ref ((u 0) 1), .ref ((u 0) 2), .ref ((u 0) 3), .ref ((u 0) 4), .int 0, .ref ((u 0) 5), .ref ((u 0) 6), .ref ((u 0) 7), .ref ((u 0) 8), .ref ((u 0) 9), .ref ((u 0) 10), .ref ((u 0) 11), .ref ((u 0) 12), .ref ((u 0) 13), .int 0])), ((u 0) 5, .inr (9, [.ref ((u 3) 0), .ref ((u 3) 1), .ref ((u 3) 2), .ref ((u 3) 3), .ref ((u 3) 4), .int 0, .int 0, .int (-1), .int 0])), ((u 3) 0, .inr (0, [.int 0, .int 0, .ref ((u 3) 5), .ref ((u 3) 6), .ref ((u 3) 7), .ref ((u 3) 8)]))]) hE hP [0, 20, 24] rfl)⟩ rfl rfl hl.1 rfl (lv_room (Nat.le_of_ble_eq_true rfl)) dL_law_367 ⟨(Nat.le_of_ble_eq_true rfl), (Nat.le_of_ble_eq_true rfl)⟩) (fun r_1 hr_1 => ?_)
  obtain rfl : r_1 = (-1) := hr_1
  refine lv_aload_n hx hb dL_law_370 rfl (lv_at hl 1 rfl) ?_
  refine lv_aload_n hx hb dL_law_371 rfl (lv_at hl 3 rfl) ?_
  refine lv_iload_n hx hb dL_law_372 rfl (lv_at hl 0 rfl) ?_
  refine lv_iconst (v := 1) hx hb dL_law_373 (by decide) ?_
  refine lv_iadd hx hb dL_law_374 ?_
  refine gz_ni (v := 1) (by decide) ?_
  refine va_sld hx hb hX hbl hbA hS (gz_in (by decide)) dL_law_375 ?_
  refine gz_ni (v := y1) e1.symm ?_
  refine lv_aload_n hx hb dL_law_376 rfl (lv_at hl 3 rfl) ?_
  refine lv_iload_n hx hb dL_law_377 rfl (lv_at hl 0 rfl) ?_
  refine lv_iconst (v := 2) hx hb dL_law_378 (by decide) ?_
  refine lv_iadd hx hb dL_law_379 ?_
  refine gz_ni (v := 2) (by decide) ?_
  refine va_sld hx hb hX hbl hbA hS (gz_in (by decide)) dL_law_380 ?_
  refine gz_ni (v := y2) e2.symm ?_
  refine vp_callSi (W.runV (As := [.int y1, .int y2]) (rest := [.int (-1)]) ⟨hx, hb, hml, hown, hts⟩ (m_wind l G k sa q1 z y1 y2) (cwV 2 hts g_L_44_m_wind rfl rfl rfl (by decide +kernel) ⟨(Nat.le_of_ble_eq_true rfl), (Nat.le_of_ble_eq_true rfl)⟩) ⟨gR.bl, va_recv hE.K hP (ci := 11) (q0 := 112) rfl rfl, (gR.pre (wc := [(q1, .inr (11, [.ref (z 0), .int 0, .int 0, .ref (z 3), .ref (z 4), .ref (z 5), .ref (z 6), .ref (z 7), .int 0, .int 0, .int 0, .int 0, .int 0, .int 0, .int 0, .ref (z 15), .int 0, .ref (z 17), .int 0, .ref (z 19), .ref (z 20), .int (-1), .int 0, .ref (z 23), .int (-1), .int (-1), .int (-1), .int 0, .int (-1), .int 0, .ref (z 30), .int 0, .ref (z 32), .int 0, .int 0, .ref (z 35), .ref (z 36), .ref (z 37), .ref (z 38), .long 0, .ref (z 40), .ref (z 41), .ref (z 42), .ref (z 43)])), (z 20, .inl (k 0, 206, .inl (fun _ => 0)))]) hE hP [112, 122] rfl)⟩ rfl rfl hl.1 rfl (lv_room (Nat.le_of_ble_eq_true rfl)) dL_law_381 ⟨(Nat.le_of_ble_eq_true rfl), (Nat.le_of_ble_eq_true rfl)⟩) (fun r_2 hr_2 => ?_)
  obtain rfl : r_2 = (-1) := hr_2
  refine lv_icmp_eq (tgt := 1253) hx hb dL_law_384 (by decide) (fun _ => ?_) (fun h9 => absurd rfl h9)
  refine lv_iinc (v := 6) (lv' := [(3, .int 6), (2, .ref q1), (1, .ref q0), (0, .ref b)]) hx hb dL_law_1253 hl (k := 0) rfl (by decide) (by decide) rfl (fun ls hl => ?_)
  refine lv_goto (tgt := 18) hx hb dL_law_1256 (by decide) ?_
  refine lv_iload_n hx hb dL_law_18 rfl (lv_at hl 0 rfl) ?_
  refine lv_aload_n hx hb dL_law_19 rfl (lv_at hl 3 rfl) ?_
  refine va_slen hx hb hX hbl hbA hS dL_law_20 ?_
  refine gz_ni (v := 6) (by decide) ?_
  refine lv_bipush (v := 6) hx hb dL_law_21 (by decide) ?_
  refine lv_isub hx hb dL_law_23 ?_
  refine gz_ni (v := 0) (by decide) ?_
  refine lv_icmp_gt (tgt := 1259) hx hb dL_law_24 (by decide) (fun _ => ?_) (fun h9 => absurd h9 (by decide))
  refine lv_iconst (v := 1) hx hb dL_law_1259 (by decide) ?_
  refine va_forget (fun q hq => by have h9 := hS.2.2 q hq; rw [hAe] at h9; exact h9) ?_
  refine W.widen (k := 600000) (n := 7302250) (Nat.le_of_ble_eq_true rfl) (Nat.le_of_ble_eq_true rfl) ?_
  exact lw_ret hx hb hr hlocks dL_law_1260
set_option maxHeartbeats 4000000 in
set_option maxRecDepth 100000 in
theorem law_gateIn {p : Program} {e : Env} {s : State} {m : MethodId} {below : List Frame} {meth : Method} {c : Code} (l : Launch) (G : va_G) (k : Nat → ClassId) (sa : Nat → Nat) {b : Nat} {xs : Nat → Int32} (C0 : lw_At p s m meth c b 6 xs) (hE : gE G k sa s) {A : Nat → Prop} (hAe : A = fun q => s.heap.size ≤ q) {H : Heap} {locs : List Loc} {ls : Array Slot} (q0 q1 : Nat) (u : Nat → Nat → Nat) (z : Nat → Nat) (hP : va_P G vwCl (ggW k q0 u ++ mmW k q1 z) H) (hD : va_D A (ggW k q0 u ++ mmW k q1 z)) (hS : va_S A s.heap H locs) (hl : lv_has ls 4 [(3, .int 0), (2, .ref q1), (1, .ref q0), (0, .ref b)]) : W p l e room_1 s m #[Value.ref b] below meth c H locs 285 12688 (lw_Z below #[Value.ref b] s) (F0 m 389 ls []) := by
  obtain ⟨hx, hb, hr, hml, hown, hts, hX, hbl, hlocks, hgv⟩ := id C0
  have hts := hts
  have hA : ∀ q : Nat, s.heap.size ≤ q → A q := by rw [hAe]; exact fun _ h => h
  have hbA : ¬ A b := by rw [hAe]; exact Nat.not_le.mpr hbl
  obtain ⟨y1, e1⟩ : ∃ y : Int32, y = xs (1 : Int32).toNatClampNeg := ⟨_, rfl⟩
  refine lv_aload_n hx hb dL_law_389 rfl (lv_at hl 2 rfl) ?_
  refine lv_aload_n hx hb dL_law_390 rfl (lv_at hl 3 rfl) ?_
  refine lv_iload_n hx hb dL_law_391 rfl (lv_at hl 0 rfl) ?_
  refine lv_iconst (v := 1) hx hb dL_law_392 (by decide) ?_
  refine lv_iadd hx hb dL_law_393 ?_
  refine gz_ni (v := 1) (by decide) ?_
  refine va_sld hx hb hX hbl hbA hS (gz_in (by decide)) dL_law_394 ?_
  refine gz_ni (v := y1) e1.symm ?_
  refine vp_callSi (W.runV (As := [.int y1]) (rest := []) ⟨hx, hb, hml, hown, hts⟩ (c_X10_gateIn l G k sa q0 (u 0) (u 3) y1) (cwV 1 hts g_L_45_c_X10_gateIn rfl rfl rfl (by decide +kernel) ⟨(Nat.le_of_ble_eq_true rfl), (Nat.le_of_ble_eq_true rfl)⟩) ⟨gR.bl, va_recv hE.K hP (ci := 10) (q0 := 0) rfl rfl, (gR.pre (wc := [(q0, .inr (10, [.ref ((u 0) 0), .ref ((u 0) 1), .ref ((u 0) 2), .ref ((u 0) 3), .ref ((u 0) 4), .int 0, .ref ((u 0) 5), .ref ((u 0) 6), .ref ((u 0) 7), .ref ((u 0) 8), .ref ((u 0) 9), .ref ((u 0) 10), .ref ((u 0) 11), .ref ((u 0) 12), .ref ((u 0) 13), .int 0])), ((u 0) 5, .inr (9, [.ref ((u 3) 0), .ref ((u 3) 1), .ref ((u 3) 2), .ref ((u 3) 3), .ref ((u 3) 4), .int 0, .int 0, .int (-1), .int 0])), ((u 3) 0, .inr (0, [.int 0, .int 0, .ref ((u 3) 5), .ref ((u 3) 6), .ref ((u 3) 7), .ref ((u 3) 8)]))]) hE hP [0, 20, 24] rfl)⟩ rfl rfl hl.1 rfl (lv_room (Nat.le_of_ble_eq_true rfl)) dL_law_395 ⟨(Nat.le_of_ble_eq_true rfl), (Nat.le_of_ble_eq_true rfl)⟩) (fun r_1 hr_1 => ?_)
  obtain rfl : r_1 = (-1) := hr_1
  refine lv_aload_n hx hb dL_law_398 rfl (lv_at hl 1 rfl) ?_
  refine lv_aload_n hx hb dL_law_399 rfl (lv_at hl 3 rfl) ?_
  refine lv_iload_n hx hb dL_law_400 rfl (lv_at hl 0 rfl) ?_
  refine lv_iconst (v := 1) hx hb dL_law_401 (by decide) ?_
  refine lv_iadd hx hb dL_law_402 ?_
  refine gz_ni (v := 1) (by decide) ?_
  refine va_sld hx hb hX hbl hbA hS (gz_in (by decide)) dL_law_403 ?_
  refine gz_ni (v := y1) e1.symm ?_
  refine vp_callSi (W.runV (As := [.int y1]) (rest := [.int (-1)]) ⟨hx, hb, hml, hown, hts⟩ (m_gateIn l G k sa q1 z y1) (cwV 1 hts g_L_48_m_gateIn rfl rfl rfl (by decide +kernel) ⟨(Nat.le_of_ble_eq_true rfl), (Nat.le_of_ble_eq_true rfl)⟩) ⟨gR.bl, va_recv hE.K hP (ci := 11) (q0 := 112) rfl rfl, (gR.pre (wc := [(q1, .inr (11, [.ref (z 0), .int 0, .int 0, .ref (z 3), .ref (z 4), .ref (z 5), .ref (z 6), .ref (z 7), .int 0, .int 0, .int 0, .int 0, .int 0, .int 0, .int 0, .ref (z 15), .int 0, .ref (z 17), .int 0, .ref (z 19), .ref (z 20), .int (-1), .int 0, .ref (z 23), .int (-1), .int (-1), .int (-1), .int 0, .int (-1), .int 0, .ref (z 30), .int 0, .ref (z 32), .int 0, .int 0, .ref (z 35), .ref (z 36), .ref (z 37), .ref (z 38), .long 0, .ref (z 40), .ref (z 41), .ref (z 42), .ref (z 43)])), (z 20, .inl (k 0, 206, .inl (fun _ => 0)))]) hE hP [112, 122] rfl)⟩ rfl rfl hl.1 rfl (lv_room (Nat.le_of_ble_eq_true rfl)) dL_law_404 ⟨(Nat.le_of_ble_eq_true rfl), (Nat.le_of_ble_eq_true rfl)⟩) (fun r_2 hr_2 => ?_)
  obtain rfl : r_2 = (-1) := hr_2
  refine lv_icmp_eq (tgt := 1253) hx hb dL_law_407 (by decide) (fun _ => ?_) (fun h9 => absurd rfl h9)
  refine lv_iinc (v := 6) (lv' := [(3, .int 6), (2, .ref q1), (1, .ref q0), (0, .ref b)]) hx hb dL_law_1253 hl (k := 0) rfl (by decide) (by decide) rfl (fun ls hl => ?_)
  refine lv_goto (tgt := 18) hx hb dL_law_1256 (by decide) ?_
  refine lv_iload_n hx hb dL_law_18 rfl (lv_at hl 0 rfl) ?_
  refine lv_aload_n hx hb dL_law_19 rfl (lv_at hl 3 rfl) ?_
  refine va_slen hx hb hX hbl hbA hS dL_law_20 ?_
  refine gz_ni (v := 6) (by decide) ?_
  refine lv_bipush (v := 6) hx hb dL_law_21 (by decide) ?_
  refine lv_isub hx hb dL_law_23 ?_
  refine gz_ni (v := 0) (by decide) ?_
  refine lv_icmp_gt (tgt := 1259) hx hb dL_law_24 (by decide) (fun _ => ?_) (fun h9 => absurd h9 (by decide))
  refine lv_iconst (v := 1) hx hb dL_law_1259 (by decide) ?_
  refine va_forget (fun q hq => by have h9 := hS.2.2 q hq; rw [hAe] at h9; exact h9) ?_
  refine W.widen (k := 600000) (n := 7302250) (Nat.le_of_ble_eq_true rfl) (Nat.le_of_ble_eq_true rfl) ?_
  exact lw_ret hx hb hr hlocks dL_law_1260
set_option maxHeartbeats 4000000 in
set_option maxRecDepth 100000 in
theorem law_hour {p : Program} {e : Env} {s : State} {m : MethodId} {below : List Frame} {meth : Method} {c : Code} (l : Launch) (G : va_G) (k : Nat → ClassId) (sa : Nat → Nat) {b : Nat} {xs : Nat → Int32} (C0 : lw_At p s m meth c b 6 xs) (hE : gE G k sa s) {A : Nat → Prop} (hAe : A = fun q => s.heap.size ≤ q) {H : Heap} {locs : List Loc} {ls : Array Slot} (q0 q1 : Nat) (u : Nat → Nat → Nat) (z : Nat → Nat) (hP : va_P G vwCl (ggW k q0 u ++ mmW k q1 z) H) (hD : va_D A (ggW k q0 u ++ mmW k q1 z)) (hS : va_S A s.heap H locs) (hl : lv_has ls 4 [(3, .int 0), (2, .ref q1), (1, .ref q0), (0, .ref b)]) : W p l e room_1 s m #[Value.ref b] below meth c H locs 285 12688 (lw_Z below #[Value.ref b] s) (F0 m 412 ls []) := by
  obtain ⟨hx, hb, hr, hml, hown, hts, hX, hbl, hlocks, hgv⟩ := id C0
  have hts := hts
  have hA : ∀ q : Nat, s.heap.size ≤ q → A q := by rw [hAe]; exact fun _ h => h
  have hbA : ¬ A b := by rw [hAe]; exact Nat.not_le.mpr hbl
  refine lv_aload_n hx hb dL_law_412 rfl (lv_at hl 2 rfl) ?_
  refine vp_callSi (W.runV (As := []) (rest := []) ⟨hx, hb, hml, hown, hts⟩ (c_X10_hour l G k sa q0 (u 0) (u 3)) (cwV 0 hts g_L_49_c_X10_hour rfl rfl rfl (by decide +kernel) ⟨(Nat.le_of_ble_eq_true rfl), (Nat.le_of_ble_eq_true rfl)⟩) ⟨gR.bl, va_recv hE.K hP (ci := 10) (q0 := 0) rfl rfl, (gR.pre (wc := [(q0, .inr (10, [.ref ((u 0) 0), .ref ((u 0) 1), .ref ((u 0) 2), .ref ((u 0) 3), .ref ((u 0) 4), .int 0, .ref ((u 0) 5), .ref ((u 0) 6), .ref ((u 0) 7), .ref ((u 0) 8), .ref ((u 0) 9), .ref ((u 0) 10), .ref ((u 0) 11), .ref ((u 0) 12), .ref ((u 0) 13), .int 0])), ((u 0) 5, .inr (9, [.ref ((u 3) 0), .ref ((u 3) 1), .ref ((u 3) 2), .ref ((u 3) 3), .ref ((u 3) 4), .int 0, .int 0, .int (-1), .int 0])), ((u 3) 0, .inr (0, [.int 0, .int 0, .ref ((u 3) 5), .ref ((u 3) 6), .ref ((u 3) 7), .ref ((u 3) 8)]))]) hE hP [0, 20, 24] rfl)⟩ rfl rfl hl.1 rfl (lv_room (Nat.le_of_ble_eq_true rfl)) dL_law_413 ⟨(Nat.le_of_ble_eq_true rfl), (Nat.le_of_ble_eq_true rfl)⟩) (fun r_1 hr_1 => ?_)
  obtain rfl : r_1 = (-1) := hr_1
  refine lv_aload_n hx hb dL_law_416 rfl (lv_at hl 1 rfl) ?_
  refine vp_callSi (W.runV (As := []) (rest := [.int (-1)]) ⟨hx, hb, hml, hown, hts⟩ (m_hour l G k sa q1 z) (cwV 0 hts g_L_52_m_hour rfl rfl rfl (by decide +kernel) ⟨(Nat.le_of_ble_eq_true rfl), (Nat.le_of_ble_eq_true rfl)⟩) ⟨gR.bl, va_recv hE.K hP (ci := 11) (q0 := 112) rfl rfl, (gR.pre (wc := [(q1, .inr (11, [.ref (z 0), .int 0, .int 0, .ref (z 3), .ref (z 4), .ref (z 5), .ref (z 6), .ref (z 7), .int 0, .int 0, .int 0, .int 0, .int 0, .int 0, .int 0, .ref (z 15), .int 0, .ref (z 17), .int 0, .ref (z 19), .ref (z 20), .int (-1), .int 0, .ref (z 23), .int (-1), .int (-1), .int (-1), .int 0, .int (-1), .int 0, .ref (z 30), .int 0, .ref (z 32), .int 0, .int 0, .ref (z 35), .ref (z 36), .ref (z 37), .ref (z 38), .long 0, .ref (z 40), .ref (z 41), .ref (z 42), .ref (z 43)])), (z 20, .inl (k 0, 206, .inl (fun _ => 0)))]) hE hP [112, 122] rfl)⟩ rfl rfl hl.1 rfl (lv_room (Nat.le_of_ble_eq_true rfl)) dL_law_417 ⟨(Nat.le_of_ble_eq_true rfl), (Nat.le_of_ble_eq_true rfl)⟩) (fun r_2 hr_2 => ?_)
  obtain rfl : r_2 = (-1) := hr_2
  refine lv_icmp_eq (tgt := 1253) hx hb dL_law_420 (by decide) (fun _ => ?_) (fun h9 => absurd rfl h9)
  refine lv_iinc (v := 6) (lv' := [(3, .int 6), (2, .ref q1), (1, .ref q0), (0, .ref b)]) hx hb dL_law_1253 hl (k := 0) rfl (by decide) (by decide) rfl (fun ls hl => ?_)
  refine lv_goto (tgt := 18) hx hb dL_law_1256 (by decide) ?_
  refine lv_iload_n hx hb dL_law_18 rfl (lv_at hl 0 rfl) ?_
  refine lv_aload_n hx hb dL_law_19 rfl (lv_at hl 3 rfl) ?_
  refine va_slen hx hb hX hbl hbA hS dL_law_20 ?_
  refine gz_ni (v := 6) (by decide) ?_
  refine lv_bipush (v := 6) hx hb dL_law_21 (by decide) ?_
  refine lv_isub hx hb dL_law_23 ?_
  refine gz_ni (v := 0) (by decide) ?_
  refine lv_icmp_gt (tgt := 1259) hx hb dL_law_24 (by decide) (fun _ => ?_) (fun h9 => absurd h9 (by decide))
  refine lv_iconst (v := 1) hx hb dL_law_1259 (by decide) ?_
  refine va_forget (fun q hq => by have h9 := hS.2.2 q hq; rw [hAe] at h9; exact h9) ?_
  refine W.widen (k := 600000) (n := 7302250) (Nat.le_of_ble_eq_true rfl) (Nat.le_of_ble_eq_true rfl) ?_
  exact lw_ret hx hb hr hlocks dL_law_1260
set_option maxHeartbeats 4000000 in
set_option maxRecDepth 100000 in
theorem law_tell {p : Program} {e : Env} {s : State} {m : MethodId} {below : List Frame} {meth : Method} {c : Code} (l : Launch) (G : va_G) (k : Nat → ClassId) (sa : Nat → Nat) {b : Nat} {xs : Nat → Int32} (C0 : lw_At p s m meth c b 6 xs) (hE : gE G k sa s) {A : Nat → Prop} (hAe : A = fun q => s.heap.size ≤ q) {H : Heap} {locs : List Loc} {ls : Array Slot} (q0 q1 : Nat) (u : Nat → Nat → Nat) (z : Nat → Nat) (hP : va_P G vwCl (ggW k q0 u ++ mmW k q1 z) H) (hD : va_D A (ggW k q0 u ++ mmW k q1 z)) (hS : va_S A s.heap H locs) (hl : lv_has ls 4 [(3, .int 0), (2, .ref q1), (1, .ref q0), (0, .ref b)]) : W p l e room_1 s m #[Value.ref b] below meth c H locs 285 12688 (lw_Z below #[Value.ref b] s) (F0 m 425 ls []) := by
  obtain ⟨hx, hb, hr, hml, hown, hts, hX, hbl, hlocks, hgv⟩ := id C0
  have hts := hts
  have hA : ∀ q : Nat, s.heap.size ≤ q → A q := by rw [hAe]; exact fun _ h => h
  have hbA : ¬ A b := by rw [hAe]; exact Nat.not_le.mpr hbl
  obtain ⟨y1, e1⟩ : ∃ y : Int32, y = xs (1 : Int32).toNatClampNeg := ⟨_, rfl⟩
  obtain ⟨y2, e2⟩ : ∃ y : Int32, y = xs (2 : Int32).toNatClampNeg := ⟨_, rfl⟩
  refine lv_aload_n hx hb dL_law_425 rfl (lv_at hl 2 rfl) ?_
  refine lv_aload_n hx hb dL_law_426 rfl (lv_at hl 3 rfl) ?_
  refine lv_iload_n hx hb dL_law_427 rfl (lv_at hl 0 rfl) ?_
  refine lv_iconst (v := 1) hx hb dL_law_428 (by decide) ?_
  refine lv_iadd hx hb dL_law_429 ?_
  refine gz_ni (v := 1) (by decide) ?_
  refine va_sld hx hb hX hbl hbA hS (gz_in (by decide)) dL_law_430 ?_
  refine gz_ni (v := y1) e1.symm ?_
  refine lv_aload_n hx hb dL_law_431 rfl (lv_at hl 3 rfl) ?_
  refine lv_iload_n hx hb dL_law_432 rfl (lv_at hl 0 rfl) ?_
  refine lv_iconst (v := 2) hx hb dL_law_433 (by decide) ?_
  refine lv_iadd hx hb dL_law_434 ?_
  refine gz_ni (v := 2) (by decide) ?_
  refine va_sld hx hb hX hbl hbA hS (gz_in (by decide)) dL_law_435 ?_
  refine gz_ni (v := y2) e2.symm ?_
  refine vp_callSi (W.runV (As := [.int y1, .int y2]) (rest := []) ⟨hx, hb, hml, hown, hts⟩ (c_X10_tell l G k sa q0 (u 0) (u 3) y1 y2) (cwV 2 hts g_L_53_c_X10_tell rfl rfl rfl (by decide +kernel) ⟨(Nat.le_of_ble_eq_true rfl), (Nat.le_of_ble_eq_true rfl)⟩) ⟨gR.bl, va_recv hE.K hP (ci := 10) (q0 := 0) rfl rfl, (gR.pre (wc := [(q0, .inr (10, [.ref ((u 0) 0), .ref ((u 0) 1), .ref ((u 0) 2), .ref ((u 0) 3), .ref ((u 0) 4), .int 0, .ref ((u 0) 5), .ref ((u 0) 6), .ref ((u 0) 7), .ref ((u 0) 8), .ref ((u 0) 9), .ref ((u 0) 10), .ref ((u 0) 11), .ref ((u 0) 12), .ref ((u 0) 13), .int 0])), ((u 0) 5, .inr (9, [.ref ((u 3) 0), .ref ((u 3) 1), .ref ((u 3) 2), .ref ((u 3) 3), .ref ((u 3) 4), .int 0, .int 0, .int (-1), .int 0])), ((u 3) 1, .inr (2, [.int 0, .int 0, .long 0, .ref ((u 3) 13), .ref ((u 3) 14), .ref ((u 3) 15), .ref ((u 3) 16)]))]) hE hP [0, 20, 33] rfl)⟩ rfl rfl hl.1 rfl (lv_room (Nat.le_of_ble_eq_true rfl)) dL_law_436 ⟨(Nat.le_of_ble_eq_true rfl), (Nat.le_of_ble_eq_true rfl)⟩) (fun r_1 hr_1 => ?_)
  obtain rfl : r_1 = (-1) := hr_1
  refine lv_aload_n hx hb dL_law_439 rfl (lv_at hl 1 rfl) ?_
  refine lv_aload_n hx hb dL_law_440 rfl (lv_at hl 3 rfl) ?_
  refine lv_iload_n hx hb dL_law_441 rfl (lv_at hl 0 rfl) ?_
  refine lv_iconst (v := 1) hx hb dL_law_442 (by decide) ?_
  refine lv_iadd hx hb dL_law_443 ?_
  refine gz_ni (v := 1) (by decide) ?_
  refine va_sld hx hb hX hbl hbA hS (gz_in (by decide)) dL_law_444 ?_
  refine gz_ni (v := y1) e1.symm ?_
  refine lv_aload_n hx hb dL_law_445 rfl (lv_at hl 3 rfl) ?_
  refine lv_iload_n hx hb dL_law_446 rfl (lv_at hl 0 rfl) ?_
  refine lv_iconst (v := 2) hx hb dL_law_447 (by decide) ?_
  refine lv_iadd hx hb dL_law_448 ?_
  refine gz_ni (v := 2) (by decide) ?_
  refine va_sld hx hb hX hbl hbA hS (gz_in (by decide)) dL_law_449 ?_
  refine gz_ni (v := y2) e2.symm ?_
  refine vp_callSi (W.runV (As := [.int y1, .int y2]) (rest := [.int (-1)]) ⟨hx, hb, hml, hown, hts⟩ (m_tell l G k sa q1 z y1 y2) (cwV 2 hts g_L_56_m_tell rfl rfl rfl (by decide +kernel) ⟨(Nat.le_of_ble_eq_true rfl), (Nat.le_of_ble_eq_true rfl)⟩) ⟨gR.bl, va_recv hE.K hP (ci := 11) (q0 := 112) rfl rfl, (gR.pre (wc := [(q1, .inr (11, [.ref (z 0), .int 0, .int 0, .ref (z 3), .ref (z 4), .ref (z 5), .ref (z 6), .ref (z 7), .int 0, .int 0, .int 0, .int 0, .int 0, .int 0, .int 0, .ref (z 15), .int 0, .ref (z 17), .int 0, .ref (z 19), .ref (z 20), .int (-1), .int 0, .ref (z 23), .int (-1), .int (-1), .int (-1), .int 0, .int (-1), .int 0, .ref (z 30), .int 0, .ref (z 32), .int 0, .int 0, .ref (z 35), .ref (z 36), .ref (z 37), .ref (z 38), .long 0, .ref (z 40), .ref (z 41), .ref (z 42), .ref (z 43)])), (z 20, .inl (k 0, 206, .inl (fun _ => 0)))]) hE hP [112, 122] rfl)⟩ rfl rfl hl.1 rfl (lv_room (Nat.le_of_ble_eq_true rfl)) dL_law_450 ⟨(Nat.le_of_ble_eq_true rfl), (Nat.le_of_ble_eq_true rfl)⟩) (fun r_2 hr_2 => ?_)
  obtain rfl : r_2 = (-1) := hr_2
  refine lv_icmp_eq (tgt := 1253) hx hb dL_law_453 (by decide) (fun _ => ?_) (fun h9 => absurd rfl h9)
  refine lv_iinc (v := 6) (lv' := [(3, .int 6), (2, .ref q1), (1, .ref q0), (0, .ref b)]) hx hb dL_law_1253 hl (k := 0) rfl (by decide) (by decide) rfl (fun ls hl => ?_)
  refine lv_goto (tgt := 18) hx hb dL_law_1256 (by decide) ?_
  refine lv_iload_n hx hb dL_law_18 rfl (lv_at hl 0 rfl) ?_
  refine lv_aload_n hx hb dL_law_19 rfl (lv_at hl 3 rfl) ?_
  refine va_slen hx hb hX hbl hbA hS dL_law_20 ?_
  refine gz_ni (v := 6) (by decide) ?_
  refine lv_bipush (v := 6) hx hb dL_law_21 (by decide) ?_
  refine lv_isub hx hb dL_law_23 ?_
  refine gz_ni (v := 0) (by decide) ?_
  refine lv_icmp_gt (tgt := 1259) hx hb dL_law_24 (by decide) (fun _ => ?_) (fun h9 => absurd h9 (by decide))
  refine lv_iconst (v := 1) hx hb dL_law_1259 (by decide) ?_
  refine va_forget (fun q hq => by have h9 := hS.2.2 q hq; rw [hAe] at h9; exact h9) ?_
  refine W.widen (k := 600000) (n := 7302250) (Nat.le_of_ble_eq_true rfl) (Nat.le_of_ble_eq_true rfl) ?_
  exact lw_ret hx hb hr hlocks dL_law_1260
set_option maxHeartbeats 4000000 in
set_option maxRecDepth 100000 in
theorem law_save {p : Program} {e : Env} {s : State} {m : MethodId} {below : List Frame} {meth : Method} {c : Code} (l : Launch) (G : va_G) (k : Nat → ClassId) (sa : Nat → Nat) {b : Nat} {xs : Nat → Int32} (C0 : lw_At p s m meth c b 6 xs) (hE : gE G k sa s) {A : Nat → Prop} (hAe : A = fun q => s.heap.size ≤ q) {H : Heap} {locs : List Loc} {ls : Array Slot} (q0 q1 : Nat) (u : Nat → Nat → Nat) (z : Nat → Nat) (hP : va_P G vwCl (ggW k q0 u ++ mmW k q1 z) H) (hD : va_D A (ggW k q0 u ++ mmW k q1 z)) (hS : va_S A s.heap H locs) (hl : lv_has ls 4 [(3, .int 0), (2, .ref q1), (1, .ref q0), (0, .ref b)]) : W p l e room_1 s m #[Value.ref b] below meth c H locs 285 12688 (lw_Z below #[Value.ref b] s) (F0 m 458 ls []) := by
  obtain ⟨hx, hb, hr, hml, hown, hts, hX, hbl, hlocks, hgv⟩ := id C0
  have hts := hts
  have hA : ∀ q : Nat, s.heap.size ≤ q → A q := by rw [hAe]; exact fun _ h => h
  have hbA : ¬ A b := by rw [hAe]; exact Nat.not_le.mpr hbl
  obtain ⟨y1, e1⟩ : ∃ y : Int32, y = xs (1 : Int32).toNatClampNeg := ⟨_, rfl⟩
  obtain ⟨y2, e2⟩ : ∃ y : Int32, y = xs (2 : Int32).toNatClampNeg := ⟨_, rfl⟩
  refine lv_aload_n hx hb dL_law_458 rfl (lv_at hl 2 rfl) ?_
  refine lv_aload_n hx hb dL_law_459 rfl (lv_at hl 3 rfl) ?_
  refine lv_iload_n hx hb dL_law_460 rfl (lv_at hl 0 rfl) ?_
  refine lv_iconst (v := 1) hx hb dL_law_461 (by decide) ?_
  refine lv_iadd hx hb dL_law_462 ?_
  refine gz_ni (v := 1) (by decide) ?_
  refine va_sld hx hb hX hbl hbA hS (gz_in (by decide)) dL_law_463 ?_
  refine gz_ni (v := y1) e1.symm ?_
  refine lv_aload_n hx hb dL_law_464 rfl (lv_at hl 3 rfl) ?_
  refine lv_iload_n hx hb dL_law_465 rfl (lv_at hl 0 rfl) ?_
  refine lv_iconst (v := 2) hx hb dL_law_466 (by decide) ?_
  refine lv_iadd hx hb dL_law_467 ?_
  refine gz_ni (v := 2) (by decide) ?_
  refine va_sld hx hb hX hbl hbA hS (gz_in (by decide)) dL_law_468 ?_
  refine gz_ni (v := y2) e2.symm ?_
  refine vp_callSi (W.runV (As := [.int y1, .int y2]) (rest := []) ⟨hx, hb, hml, hown, hts⟩ (c_X10_save l G k sa q0 (u 0) (u 3) y1 y2) (cwV 2 hts g_L_57_c_X10_save rfl rfl rfl (by decide +kernel) ⟨(Nat.le_of_ble_eq_true rfl), (Nat.le_of_ble_eq_true rfl)⟩) ⟨gR.bl, va_recv hE.K hP (ci := 10) (q0 := 0) rfl rfl, (gR.pre (wc := [(q0, .inr (10, [.ref ((u 0) 0), .ref ((u 0) 1), .ref ((u 0) 2), .ref ((u 0) 3), .ref ((u 0) 4), .int 0, .ref ((u 0) 5), .ref ((u 0) 6), .ref ((u 0) 7), .ref ((u 0) 8), .ref ((u 0) 9), .ref ((u 0) 10), .ref ((u 0) 11), .ref ((u 0) 12), .ref ((u 0) 13), .int 0])), ((u 0) 5, .inr (9, [.ref ((u 3) 0), .ref ((u 3) 1), .ref ((u 3) 2), .ref ((u 3) 3), .ref ((u 3) 4), .int 0, .int 0, .int (-1), .int 0])), ((u 3) 1, .inr (2, [.int 0, .int 0, .long 0, .ref ((u 3) 13), .ref ((u 3) 14), .ref ((u 3) 15), .ref ((u 3) 16)]))]) hE hP [0, 20, 33] rfl)⟩ rfl rfl hl.1 rfl (lv_room (Nat.le_of_ble_eq_true rfl)) dL_law_469 ⟨(Nat.le_of_ble_eq_true rfl), (Nat.le_of_ble_eq_true rfl)⟩) (fun r_1 hr_1 => ?_)
  obtain rfl : r_1 = (-1) := hr_1
  refine lv_aload_n hx hb dL_law_472 rfl (lv_at hl 1 rfl) ?_
  refine lv_aload_n hx hb dL_law_473 rfl (lv_at hl 3 rfl) ?_
  refine lv_iload_n hx hb dL_law_474 rfl (lv_at hl 0 rfl) ?_
  refine lv_iconst (v := 1) hx hb dL_law_475 (by decide) ?_
  refine lv_iadd hx hb dL_law_476 ?_
  refine gz_ni (v := 1) (by decide) ?_
  refine va_sld hx hb hX hbl hbA hS (gz_in (by decide)) dL_law_477 ?_
  refine gz_ni (v := y1) e1.symm ?_
  refine lv_aload_n hx hb dL_law_478 rfl (lv_at hl 3 rfl) ?_
  refine lv_iload_n hx hb dL_law_479 rfl (lv_at hl 0 rfl) ?_
  refine lv_iconst (v := 2) hx hb dL_law_480 (by decide) ?_
  refine lv_iadd hx hb dL_law_481 ?_
  refine gz_ni (v := 2) (by decide) ?_
  refine va_sld hx hb hX hbl hbA hS (gz_in (by decide)) dL_law_482 ?_
  refine gz_ni (v := y2) e2.symm ?_
  refine vp_callSi (W.runV (As := [.int y1, .int y2]) (rest := [.int (-1)]) ⟨hx, hb, hml, hown, hts⟩ (m_save l G k sa q1 z y1 y2) (cwV 2 hts g_L_60_m_save rfl rfl rfl (by decide +kernel) ⟨(Nat.le_of_ble_eq_true rfl), (Nat.le_of_ble_eq_true rfl)⟩) ⟨gR.bl, va_recv hE.K hP (ci := 11) (q0 := 112) rfl rfl, (gR.pre (wc := [(q1, .inr (11, [.ref (z 0), .int 0, .int 0, .ref (z 3), .ref (z 4), .ref (z 5), .ref (z 6), .ref (z 7), .int 0, .int 0, .int 0, .int 0, .int 0, .int 0, .int 0, .ref (z 15), .int 0, .ref (z 17), .int 0, .ref (z 19), .ref (z 20), .int (-1), .int 0, .ref (z 23), .int (-1), .int (-1), .int (-1), .int 0, .int (-1), .int 0, .ref (z 30), .int 0, .ref (z 32), .int 0, .int 0, .ref (z 35), .ref (z 36), .ref (z 37), .ref (z 38), .long 0, .ref (z 40), .ref (z 41), .ref (z 42), .ref (z 43)])), (z 20, .inl (k 0, 206, .inl (fun _ => 0)))]) hE hP [112, 122] rfl)⟩ rfl rfl hl.1 rfl (lv_room (Nat.le_of_ble_eq_true rfl)) dL_law_483 ⟨(Nat.le_of_ble_eq_true rfl), (Nat.le_of_ble_eq_true rfl)⟩) (fun r_2 hr_2 => ?_)
  obtain rfl : r_2 = (-1) := hr_2
  refine lv_icmp_eq (tgt := 1253) hx hb dL_law_486 (by decide) (fun _ => ?_) (fun h9 => absurd rfl h9)
  refine lv_iinc (v := 6) (lv' := [(3, .int 6), (2, .ref q1), (1, .ref q0), (0, .ref b)]) hx hb dL_law_1253 hl (k := 0) rfl (by decide) (by decide) rfl (fun ls hl => ?_)
  refine lv_goto (tgt := 18) hx hb dL_law_1256 (by decide) ?_
  refine lv_iload_n hx hb dL_law_18 rfl (lv_at hl 0 rfl) ?_
  refine lv_aload_n hx hb dL_law_19 rfl (lv_at hl 3 rfl) ?_
  refine va_slen hx hb hX hbl hbA hS dL_law_20 ?_
  refine gz_ni (v := 6) (by decide) ?_
  refine lv_bipush (v := 6) hx hb dL_law_21 (by decide) ?_
  refine lv_isub hx hb dL_law_23 ?_
  refine gz_ni (v := 0) (by decide) ?_
  refine lv_icmp_gt (tgt := 1259) hx hb dL_law_24 (by decide) (fun _ => ?_) (fun h9 => absurd h9 (by decide))
  refine lv_iconst (v := 1) hx hb dL_law_1259 (by decide) ?_
  refine va_forget (fun q hq => by have h9 := hS.2.2 q hq; rw [hAe] at h9; exact h9) ?_
  refine W.widen (k := 600000) (n := 7302250) (Nat.le_of_ble_eq_true rfl) (Nat.le_of_ble_eq_true rfl) ?_
  exact lw_ret hx hb hr hlocks dL_law_1260
set_option maxHeartbeats 4000000 in
set_option maxRecDepth 100000 in
theorem law_carry {p : Program} {e : Env} {s : State} {m : MethodId} {below : List Frame} {meth : Method} {c : Code} (l : Launch) (G : va_G) (k : Nat → ClassId) (sa : Nat → Nat) {b : Nat} {xs : Nat → Int32} (C0 : lw_At p s m meth c b 6 xs) (hE : gE G k sa s) {A : Nat → Prop} (hAe : A = fun q => s.heap.size ≤ q) {H : Heap} {locs : List Loc} {ls : Array Slot} (q0 q1 : Nat) (u : Nat → Nat → Nat) (z : Nat → Nat) (hP : va_P G vwCl (ggW k q0 u ++ mmW k q1 z) H) (hD : va_D A (ggW k q0 u ++ mmW k q1 z)) (hS : va_S A s.heap H locs) (hl : lv_has ls 4 [(3, .int 0), (2, .ref q1), (1, .ref q0), (0, .ref b)]) : W p l e room_1 s m #[Value.ref b] below meth c H locs 285 12688 (lw_Z below #[Value.ref b] s) (F0 m 491 ls []) := by
  obtain ⟨hx, hb, hr, hml, hown, hts, hX, hbl, hlocks, hgv⟩ := id C0
  have hts := hts
  have hA : ∀ q : Nat, s.heap.size ≤ q → A q := by rw [hAe]; exact fun _ h => h
  have hbA : ¬ A b := by rw [hAe]; exact Nat.not_le.mpr hbl
  obtain ⟨y1, e1⟩ : ∃ y : Int32, y = xs (1 : Int32).toNatClampNeg := ⟨_, rfl⟩
  obtain ⟨y2, e2⟩ : ∃ y : Int32, y = xs (2 : Int32).toNatClampNeg := ⟨_, rfl⟩
  refine lv_aload_n hx hb dL_law_491 rfl (lv_at hl 2 rfl) ?_
  refine lv_aload_n hx hb dL_law_492 rfl (lv_at hl 3 rfl) ?_
  refine lv_iload_n hx hb dL_law_493 rfl (lv_at hl 0 rfl) ?_
  refine lv_iconst (v := 1) hx hb dL_law_494 (by decide) ?_
  refine lv_iadd hx hb dL_law_495 ?_
  refine gz_ni (v := 1) (by decide) ?_
  refine va_sld hx hb hX hbl hbA hS (gz_in (by decide)) dL_law_496 ?_
  refine gz_ni (v := y1) e1.symm ?_
  refine lv_aload_n hx hb dL_law_497 rfl (lv_at hl 3 rfl) ?_
  refine lv_iload_n hx hb dL_law_498 rfl (lv_at hl 0 rfl) ?_
  refine lv_iconst (v := 2) hx hb dL_law_499 (by decide) ?_
  refine lv_iadd hx hb dL_law_500 ?_
  refine gz_ni (v := 2) (by decide) ?_
  refine va_sld hx hb hX hbl hbA hS (gz_in (by decide)) dL_law_501 ?_
  refine gz_ni (v := y2) e2.symm ?_
  refine vp_callSi (W.runV (As := [.int y1, .int y2]) (rest := []) ⟨hx, hb, hml, hown, hts⟩ (c_X10_carry l G k sa q0 (u 0) (u 3) y1 y2) (cwV 2 hts g_L_61_c_X10_carry rfl rfl rfl (by decide +kernel) ⟨(Nat.le_of_ble_eq_true rfl), (Nat.le_of_ble_eq_true rfl)⟩) ⟨gR.bl, va_recv hE.K hP (ci := 10) (q0 := 0) rfl rfl, (gR.pre (wc := [(q0, .inr (10, [.ref ((u 0) 0), .ref ((u 0) 1), .ref ((u 0) 2), .ref ((u 0) 3), .ref ((u 0) 4), .int 0, .ref ((u 0) 5), .ref ((u 0) 6), .ref ((u 0) 7), .ref ((u 0) 8), .ref ((u 0) 9), .ref ((u 0) 10), .ref ((u 0) 11), .ref ((u 0) 12), .ref ((u 0) 13), .int 0])), ((u 0) 5, .inr (9, [.ref ((u 3) 0), .ref ((u 3) 1), .ref ((u 3) 2), .ref ((u 3) 3), .ref ((u 3) 4), .int 0, .int 0, .int (-1), .int 0])), ((u 3) 1, .inr (2, [.int 0, .int 0, .long 0, .ref ((u 3) 13), .ref ((u 3) 14), .ref ((u 3) 15), .ref ((u 3) 16)]))]) hE hP [0, 20, 33] rfl)⟩ rfl rfl hl.1 rfl (lv_room (Nat.le_of_ble_eq_true rfl)) dL_law_502 ⟨(Nat.le_of_ble_eq_true rfl), (Nat.le_of_ble_eq_true rfl)⟩) (fun r_1 hr_1 => ?_)
  obtain rfl : r_1 = (-1) := hr_1
  refine lv_aload_n hx hb dL_law_505 rfl (lv_at hl 1 rfl) ?_
  refine lv_aload_n hx hb dL_law_506 rfl (lv_at hl 3 rfl) ?_
  refine lv_iload_n hx hb dL_law_507 rfl (lv_at hl 0 rfl) ?_
  refine lv_iconst (v := 1) hx hb dL_law_508 (by decide) ?_
  refine lv_iadd hx hb dL_law_509 ?_
  refine gz_ni (v := 1) (by decide) ?_
  refine va_sld hx hb hX hbl hbA hS (gz_in (by decide)) dL_law_510 ?_
  refine gz_ni (v := y1) e1.symm ?_
  refine lv_aload_n hx hb dL_law_511 rfl (lv_at hl 3 rfl) ?_
  refine lv_iload_n hx hb dL_law_512 rfl (lv_at hl 0 rfl) ?_
  refine lv_iconst (v := 2) hx hb dL_law_513 (by decide) ?_
  refine lv_iadd hx hb dL_law_514 ?_
  refine gz_ni (v := 2) (by decide) ?_
  refine va_sld hx hb hX hbl hbA hS (gz_in (by decide)) dL_law_515 ?_
  refine gz_ni (v := y2) e2.symm ?_
  refine vp_callSi (W.runV (As := [.int y1, .int y2]) (rest := [.int (-1)]) ⟨hx, hb, hml, hown, hts⟩ (m_carry l G k sa q1 z y1 y2) (cwV 2 hts g_L_64_m_carry rfl rfl rfl (by decide +kernel) ⟨(Nat.le_of_ble_eq_true rfl), (Nat.le_of_ble_eq_true rfl)⟩) ⟨gR.bl, va_recv hE.K hP (ci := 11) (q0 := 112) rfl rfl, (gR.pre (wc := [(q1, .inr (11, [.ref (z 0), .int 0, .int 0, .ref (z 3), .ref (z 4), .ref (z 5), .ref (z 6), .ref (z 7), .int 0, .int 0, .int 0, .int 0, .int 0, .int 0, .int 0, .ref (z 15), .int 0, .ref (z 17), .int 0, .ref (z 19), .ref (z 20), .int (-1), .int 0, .ref (z 23), .int (-1), .int (-1), .int (-1), .int 0, .int (-1), .int 0, .ref (z 30), .int 0, .ref (z 32), .int 0, .int 0, .ref (z 35), .ref (z 36), .ref (z 37), .ref (z 38), .long 0, .ref (z 40), .ref (z 41), .ref (z 42), .ref (z 43)])), (z 20, .inl (k 0, 206, .inl (fun _ => 0)))]) hE hP [112, 122] rfl)⟩ rfl rfl hl.1 rfl (lv_room (Nat.le_of_ble_eq_true rfl)) dL_law_516 ⟨(Nat.le_of_ble_eq_true rfl), (Nat.le_of_ble_eq_true rfl)⟩) (fun r_2 hr_2 => ?_)
  obtain rfl : r_2 = (-1) := hr_2
  refine lv_icmp_eq (tgt := 1253) hx hb dL_law_519 (by decide) (fun _ => ?_) (fun h9 => absurd rfl h9)
  refine lv_iinc (v := 6) (lv' := [(3, .int 6), (2, .ref q1), (1, .ref q0), (0, .ref b)]) hx hb dL_law_1253 hl (k := 0) rfl (by decide) (by decide) rfl (fun ls hl => ?_)
  refine lv_goto (tgt := 18) hx hb dL_law_1256 (by decide) ?_
  refine lv_iload_n hx hb dL_law_18 rfl (lv_at hl 0 rfl) ?_
  refine lv_aload_n hx hb dL_law_19 rfl (lv_at hl 3 rfl) ?_
  refine va_slen hx hb hX hbl hbA hS dL_law_20 ?_
  refine gz_ni (v := 6) (by decide) ?_
  refine lv_bipush (v := 6) hx hb dL_law_21 (by decide) ?_
  refine lv_isub hx hb dL_law_23 ?_
  refine gz_ni (v := 0) (by decide) ?_
  refine lv_icmp_gt (tgt := 1259) hx hb dL_law_24 (by decide) (fun _ => ?_) (fun h9 => absurd h9 (by decide))
  refine lv_iconst (v := 1) hx hb dL_law_1259 (by decide) ?_
  refine va_forget (fun q hq => by have h9 := hS.2.2 q hq; rw [hAe] at h9; exact h9) ?_
  refine W.widen (k := 600000) (n := 7302250) (Nat.le_of_ble_eq_true rfl) (Nat.le_of_ble_eq_true rfl) ?_
  exact lw_ret hx hb hr hlocks dL_law_1260
set_option maxHeartbeats 4000000 in
set_option maxRecDepth 100000 in
theorem law_gate {p : Program} {e : Env} {s : State} {m : MethodId} {below : List Frame} {meth : Method} {c : Code} (l : Launch) (G : va_G) (k : Nat → ClassId) (sa : Nat → Nat) {b : Nat} {xs : Nat → Int32} (C0 : lw_At p s m meth c b 6 xs) (hE : gE G k sa s) {A : Nat → Prop} (hAe : A = fun q => s.heap.size ≤ q) {H : Heap} {locs : List Loc} {ls : Array Slot} (q0 q1 : Nat) (u : Nat → Nat → Nat) (z : Nat → Nat) (hP : va_P G vwCl (ggW k q0 u ++ mmW k q1 z) H) (hD : va_D A (ggW k q0 u ++ mmW k q1 z)) (hS : va_S A s.heap H locs) (hl : lv_has ls 4 [(3, .int 0), (2, .ref q1), (1, .ref q0), (0, .ref b)]) : W p l e room_1 s m #[Value.ref b] below meth c H locs 285 12688 (lw_Z below #[Value.ref b] s) (F0 m 524 ls []) := by
  obtain ⟨hx, hb, hr, hml, hown, hts, hX, hbl, hlocks, hgv⟩ := id C0
  have hts := hts
  have hA : ∀ q : Nat, s.heap.size ≤ q → A q := by rw [hAe]; exact fun _ h => h
  have hbA : ¬ A b := by rw [hAe]; exact Nat.not_le.mpr hbl
  obtain ⟨y1, e1⟩ : ∃ y : Int32, y = xs (1 : Int32).toNatClampNeg := ⟨_, rfl⟩
  refine lv_aload_n hx hb dL_law_524 rfl (lv_at hl 2 rfl) ?_
  refine lv_aload_n hx hb dL_law_525 rfl (lv_at hl 3 rfl) ?_
  refine lv_iload_n hx hb dL_law_526 rfl (lv_at hl 0 rfl) ?_
  refine lv_iconst (v := 1) hx hb dL_law_527 (by decide) ?_
  refine lv_iadd hx hb dL_law_528 ?_
  refine gz_ni (v := 1) (by decide) ?_
  refine va_sld hx hb hX hbl hbA hS (gz_in (by decide)) dL_law_529 ?_
  refine gz_ni (v := y1) e1.symm ?_
  refine vp_callSi (W.runV (As := [.int y1]) (rest := []) ⟨hx, hb, hml, hown, hts⟩ (c_X10_gate l G k sa q0 (u 0) (u 3) y1) (cwV 1 hts g_L_65_c_X10_gate rfl rfl rfl (by decide +kernel) ⟨(Nat.le_of_ble_eq_true rfl), (Nat.le_of_ble_eq_true rfl)⟩) ⟨gR.bl, va_recv hE.K hP (ci := 10) (q0 := 0) rfl rfl, (gR.pre (wc := [(q0, .inr (10, [.ref ((u 0) 0), .ref ((u 0) 1), .ref ((u 0) 2), .ref ((u 0) 3), .ref ((u 0) 4), .int 0, .ref ((u 0) 5), .ref ((u 0) 6), .ref ((u 0) 7), .ref ((u 0) 8), .ref ((u 0) 9), .ref ((u 0) 10), .ref ((u 0) 11), .ref ((u 0) 12), .ref ((u 0) 13), .int 0])), ((u 0) 5, .inr (9, [.ref ((u 3) 0), .ref ((u 3) 1), .ref ((u 3) 2), .ref ((u 3) 3), .ref ((u 3) 4), .int 0, .int 0, .int (-1), .int 0])), ((u 3) 0, .inr (0, [.int 0, .int 0, .ref ((u 3) 5), .ref ((u 3) 6), .ref ((u 3) 7), .ref ((u 3) 8)]))]) hE hP [0, 20, 24] rfl)⟩ rfl rfl hl.1 rfl (lv_room (Nat.le_of_ble_eq_true rfl)) dL_law_530 ⟨(Nat.le_of_ble_eq_true rfl), (Nat.le_of_ble_eq_true rfl)⟩) (fun r_1 hr_1 => ?_)
  obtain rfl : r_1 = (-1) := hr_1
  refine lv_aload_n hx hb dL_law_533 rfl (lv_at hl 1 rfl) ?_
  refine lv_aload_n hx hb dL_law_534 rfl (lv_at hl 3 rfl) ?_
  refine lv_iload_n hx hb dL_law_535 rfl (lv_at hl 0 rfl) ?_
  refine lv_iconst (v := 1) hx hb dL_law_536 (by decide) ?_
  refine lv_iadd hx hb dL_law_537 ?_
  refine gz_ni (v := 1) (by decide) ?_
  refine va_sld hx hb hX hbl hbA hS (gz_in (by decide)) dL_law_538 ?_
  refine gz_ni (v := y1) e1.symm ?_
  refine vp_callSi (W.runV (As := [.int y1]) (rest := [.int (-1)]) ⟨hx, hb, hml, hown, hts⟩ (m_gate l G k sa q1 z y1) (cwV 1 hts g_L_68_m_gate rfl rfl rfl (by decide +kernel) ⟨(Nat.le_of_ble_eq_true rfl), (Nat.le_of_ble_eq_true rfl)⟩) ⟨gR.bl, va_recv hE.K hP (ci := 11) (q0 := 112) rfl rfl, (gR.pre (wc := [(q1, .inr (11, [.ref (z 0), .int 0, .int 0, .ref (z 3), .ref (z 4), .ref (z 5), .ref (z 6), .ref (z 7), .int 0, .int 0, .int 0, .int 0, .int 0, .int 0, .int 0, .ref (z 15), .int 0, .ref (z 17), .int 0, .ref (z 19), .ref (z 20), .int (-1), .int 0, .ref (z 23), .int (-1), .int (-1), .int (-1), .int 0, .int (-1), .int 0, .ref (z 30), .int 0, .ref (z 32), .int 0, .int 0, .ref (z 35), .ref (z 36), .ref (z 37), .ref (z 38), .long 0, .ref (z 40), .ref (z 41), .ref (z 42), .ref (z 43)])), (z 20, .inl (k 0, 206, .inl (fun _ => 0)))]) hE hP [112, 122] rfl)⟩ rfl rfl hl.1 rfl (lv_room (Nat.le_of_ble_eq_true rfl)) dL_law_539 ⟨(Nat.le_of_ble_eq_true rfl), (Nat.le_of_ble_eq_true rfl)⟩) (fun r_2 hr_2 => ?_)
  obtain rfl : r_2 = (-1) := hr_2
  refine lv_icmp_eq (tgt := 1253) hx hb dL_law_542 (by decide) (fun _ => ?_) (fun h9 => absurd rfl h9)
  refine lv_iinc (v := 6) (lv' := [(3, .int 6), (2, .ref q1), (1, .ref q0), (0, .ref b)]) hx hb dL_law_1253 hl (k := 0) rfl (by decide) (by decide) rfl (fun ls hl => ?_)
  refine lv_goto (tgt := 18) hx hb dL_law_1256 (by decide) ?_
  refine lv_iload_n hx hb dL_law_18 rfl (lv_at hl 0 rfl) ?_
  refine lv_aload_n hx hb dL_law_19 rfl (lv_at hl 3 rfl) ?_
  refine va_slen hx hb hX hbl hbA hS dL_law_20 ?_
  refine gz_ni (v := 6) (by decide) ?_
  refine lv_bipush (v := 6) hx hb dL_law_21 (by decide) ?_
  refine lv_isub hx hb dL_law_23 ?_
  refine gz_ni (v := 0) (by decide) ?_
  refine lv_icmp_gt (tgt := 1259) hx hb dL_law_24 (by decide) (fun _ => ?_) (fun h9 => absurd h9 (by decide))
  refine lv_iconst (v := 1) hx hb dL_law_1259 (by decide) ?_
  refine va_forget (fun q hq => by have h9 := hS.2.2 q hq; rw [hAe] at h9; exact h9) ?_
  refine W.widen (k := 600000) (n := 7302250) (Nat.le_of_ble_eq_true rfl) (Nat.le_of_ble_eq_true rfl) ?_
  exact lw_ret hx hb hr hlocks dL_law_1260
set_option maxHeartbeats 4000000 in
set_option maxRecDepth 100000 in
theorem law_undo {p : Program} {e : Env} {s : State} {m : MethodId} {below : List Frame} {meth : Method} {c : Code} (l : Launch) (G : va_G) (k : Nat → ClassId) (sa : Nat → Nat) {b : Nat} {xs : Nat → Int32} (C0 : lw_At p s m meth c b 6 xs) (hE : gE G k sa s) {A : Nat → Prop} (hAe : A = fun q => s.heap.size ≤ q) {H : Heap} {locs : List Loc} {ls : Array Slot} (q0 q1 : Nat) (u : Nat → Nat → Nat) (z : Nat → Nat) (hP : va_P G vwCl (ggW k q0 u ++ mmW k q1 z) H) (hD : va_D A (ggW k q0 u ++ mmW k q1 z)) (hS : va_S A s.heap H locs) (hl : lv_has ls 4 [(3, .int 0), (2, .ref q1), (1, .ref q0), (0, .ref b)]) : W p l e room_1 s m #[Value.ref b] below meth c H locs 285 12688 (lw_Z below #[Value.ref b] s) (F0 m 547 ls []) := by
  obtain ⟨hx, hb, hr, hml, hown, hts, hX, hbl, hlocks, hgv⟩ := id C0
  have hts := hts
  have hA : ∀ q : Nat, s.heap.size ≤ q → A q := by rw [hAe]; exact fun _ h => h
  have hbA : ¬ A b := by rw [hAe]; exact Nat.not_le.mpr hbl
  refine lv_aload_n hx hb dL_law_547 rfl (lv_at hl 2 rfl) ?_
  refine vp_callSi (W.runV (As := []) (rest := []) ⟨hx, hb, hml, hown, hts⟩ (c_X10_undo l G k sa q0 (u 0) (u 3)) (cwV 0 hts g_L_69_c_X10_undo rfl rfl rfl (by decide +kernel) ⟨(Nat.le_of_ble_eq_true rfl), (Nat.le_of_ble_eq_true rfl)⟩) ⟨gR.bl, va_recv hE.K hP (ci := 10) (q0 := 0) rfl rfl, (gR.pre (wc := [(q0, .inr (10, [.ref ((u 0) 0), .ref ((u 0) 1), .ref ((u 0) 2), .ref ((u 0) 3), .ref ((u 0) 4), .int 0, .ref ((u 0) 5), .ref ((u 0) 6), .ref ((u 0) 7), .ref ((u 0) 8), .ref ((u 0) 9), .ref ((u 0) 10), .ref ((u 0) 11), .ref ((u 0) 12), .ref ((u 0) 13), .int 0])), ((u 0) 5, .inr (9, [.ref ((u 3) 0), .ref ((u 3) 1), .ref ((u 3) 2), .ref ((u 3) 3), .ref ((u 3) 4), .int 0, .int 0, .int (-1), .int 0])), ((u 0) 7, .inr (3, [.ref ((u 0) 18), .int 0, .int 0]))]) hE hP [0, 20, 39] rfl)⟩ rfl rfl hl.1 rfl (lv_room (Nat.le_of_ble_eq_true rfl)) dL_law_548 ⟨(Nat.le_of_ble_eq_true rfl), (Nat.le_of_ble_eq_true rfl)⟩) (fun r_1 hr_1 => ?_)
  obtain rfl : r_1 = (-1) := hr_1
  refine lv_aload_n hx hb dL_law_551 rfl (lv_at hl 1 rfl) ?_
  refine vp_callSi (W.runV (As := []) (rest := [.int (-1)]) ⟨hx, hb, hml, hown, hts⟩ (m_undo l G k sa q1 z) (cwV 0 hts g_L_72_m_undo rfl rfl rfl (by decide +kernel) ⟨(Nat.le_of_ble_eq_true rfl), (Nat.le_of_ble_eq_true rfl)⟩) ⟨gR.bl, va_recv hE.K hP (ci := 11) (q0 := 112) rfl rfl, (gR.pre (wc := [(q1, .inr (11, [.ref (z 0), .int 0, .int 0, .ref (z 3), .ref (z 4), .ref (z 5), .ref (z 6), .ref (z 7), .int 0, .int 0, .int 0, .int 0, .int 0, .int 0, .int 0, .ref (z 15), .int 0, .ref (z 17), .int 0, .ref (z 19), .ref (z 20), .int (-1), .int 0, .ref (z 23), .int (-1), .int (-1), .int (-1), .int 0, .int (-1), .int 0, .ref (z 30), .int 0, .ref (z 32), .int 0, .int 0, .ref (z 35), .ref (z 36), .ref (z 37), .ref (z 38), .long 0, .ref (z 40), .ref (z 41), .ref (z 42), .ref (z 43)]))]) hE hP [112] rfl)⟩ rfl rfl hl.1 rfl (lv_room (Nat.le_of_ble_eq_true rfl)) dL_law_552 ⟨(Nat.le_of_ble_eq_true rfl), (Nat.le_of_ble_eq_true rfl)⟩) (fun r_2 hr_2 => ?_)
  obtain rfl : r_2 = (-1) := hr_2
  refine lv_icmp_eq (tgt := 1253) hx hb dL_law_555 (by decide) (fun _ => ?_) (fun h9 => absurd rfl h9)
  refine lv_iinc (v := 6) (lv' := [(3, .int 6), (2, .ref q1), (1, .ref q0), (0, .ref b)]) hx hb dL_law_1253 hl (k := 0) rfl (by decide) (by decide) rfl (fun ls hl => ?_)
  refine lv_goto (tgt := 18) hx hb dL_law_1256 (by decide) ?_
  refine lv_iload_n hx hb dL_law_18 rfl (lv_at hl 0 rfl) ?_
  refine lv_aload_n hx hb dL_law_19 rfl (lv_at hl 3 rfl) ?_
  refine va_slen hx hb hX hbl hbA hS dL_law_20 ?_
  refine gz_ni (v := 6) (by decide) ?_
  refine lv_bipush (v := 6) hx hb dL_law_21 (by decide) ?_
  refine lv_isub hx hb dL_law_23 ?_
  refine gz_ni (v := 0) (by decide) ?_
  refine lv_icmp_gt (tgt := 1259) hx hb dL_law_24 (by decide) (fun _ => ?_) (fun h9 => absurd h9 (by decide))
  refine lv_iconst (v := 1) hx hb dL_law_1259 (by decide) ?_
  refine va_forget (fun q hq => by have h9 := hS.2.2 q hq; rw [hAe] at h9; exact h9) ?_
  refine W.widen (k := 600000) (n := 7302250) (Nat.le_of_ble_eq_true rfl) (Nat.le_of_ble_eq_true rfl) ?_
  exact lw_ret hx hb hr hlocks dL_law_1260
set_option maxHeartbeats 4000000 in
set_option maxRecDepth 100000 in
theorem law_ahead {p : Program} {e : Env} {s : State} {m : MethodId} {below : List Frame} {meth : Method} {c : Code} (l : Launch) (G : va_G) (k : Nat → ClassId) (sa : Nat → Nat) {b : Nat} {xs : Nat → Int32} (C0 : lw_At p s m meth c b 6 xs) (hE : gE G k sa s) {A : Nat → Prop} (hAe : A = fun q => s.heap.size ≤ q) {H : Heap} {locs : List Loc} {ls : Array Slot} (q0 q1 : Nat) (u : Nat → Nat → Nat) (z : Nat → Nat) (hP : va_P G vwCl (ggW k q0 u ++ mmW k q1 z) H) (hD : va_D A (ggW k q0 u ++ mmW k q1 z)) (hS : va_S A s.heap H locs) (hl : lv_has ls 4 [(3, .int 0), (2, .ref q1), (1, .ref q0), (0, .ref b)]) : W p l e room_1 s m #[Value.ref b] below meth c H locs 285 12688 (lw_Z below #[Value.ref b] s) (F0 m 560 ls []) := by
  obtain ⟨hx, hb, hr, hml, hown, hts, hX, hbl, hlocks, hgv⟩ := id C0
  have hts := hts
  have hA : ∀ q : Nat, s.heap.size ≤ q → A q := by rw [hAe]; exact fun _ h => h
  have hbA : ¬ A b := by rw [hAe]; exact Nat.not_le.mpr hbl
  obtain ⟨y1, e1⟩ : ∃ y : Int32, y = xs (1 : Int32).toNatClampNeg := ⟨_, rfl⟩
  obtain ⟨y2, e2⟩ : ∃ y : Int32, y = xs (2 : Int32).toNatClampNeg := ⟨_, rfl⟩
  obtain ⟨y3, e3⟩ : ∃ y : Int32, y = xs (3 : Int32).toNatClampNeg := ⟨_, rfl⟩
  refine lv_aload_n hx hb dL_law_560 rfl (lv_at hl 2 rfl) ?_
  refine lv_aload_n hx hb dL_law_561 rfl (lv_at hl 3 rfl) ?_
  refine lv_iload_n hx hb dL_law_562 rfl (lv_at hl 0 rfl) ?_
  refine lv_iconst (v := 1) hx hb dL_law_563 (by decide) ?_
  refine lv_iadd hx hb dL_law_564 ?_
  refine gz_ni (v := 1) (by decide) ?_
  refine va_sld hx hb hX hbl hbA hS (gz_in (by decide)) dL_law_565 ?_
  refine gz_ni (v := y1) e1.symm ?_
  refine lv_aload_n hx hb dL_law_566 rfl (lv_at hl 3 rfl) ?_
  refine lv_iload_n hx hb dL_law_567 rfl (lv_at hl 0 rfl) ?_
  refine lv_iconst (v := 2) hx hb dL_law_568 (by decide) ?_
  refine lv_iadd hx hb dL_law_569 ?_
  refine gz_ni (v := 2) (by decide) ?_
  refine va_sld hx hb hX hbl hbA hS (gz_in (by decide)) dL_law_570 ?_
  refine gz_ni (v := y2) e2.symm ?_
  refine lv_aload_n hx hb dL_law_571 rfl (lv_at hl 3 rfl) ?_
  refine lv_iload_n hx hb dL_law_572 rfl (lv_at hl 0 rfl) ?_
  refine lv_iconst (v := 3) hx hb dL_law_573 (by decide) ?_
  refine lv_iadd hx hb dL_law_574 ?_
  refine gz_ni (v := 3) (by decide) ?_
  refine va_sld hx hb hX hbl hbA hS (gz_in (by decide)) dL_law_575 ?_
  refine gz_ni (v := y3) e3.symm ?_
  refine vp_callSi (W.runV (As := [.int y1, .int y2, .int y3]) (rest := []) ⟨hx, hb, hml, hown, hts⟩ (c_X10_ahead l G k sa q0 (u 0) (u 3) y1 y2 y3) (cwV 3 hts g_L_73_c_X10_ahead rfl rfl rfl (by decide +kernel) ⟨(Nat.le_of_ble_eq_true rfl), (Nat.le_of_ble_eq_true rfl)⟩) ⟨gR.bl, va_recv hE.K hP (ci := 10) (q0 := 0) rfl rfl, (gR.pre (wc := [(q0, .inr (10, [.ref ((u 0) 0), .ref ((u 0) 1), .ref ((u 0) 2), .ref ((u 0) 3), .ref ((u 0) 4), .int 0, .ref ((u 0) 5), .ref ((u 0) 6), .ref ((u 0) 7), .ref ((u 0) 8), .ref ((u 0) 9), .ref ((u 0) 10), .ref ((u 0) 11), .ref ((u 0) 12), .ref ((u 0) 13), .int 0])), ((u 0) 5, .inr (9, [.ref ((u 3) 0), .ref ((u 3) 1), .ref ((u 3) 2), .ref ((u 3) 3), .ref ((u 3) 4), .int 0, .int 0, .int (-1), .int 0])), ((u 3) 1, .inr (2, [.int 0, .int 0, .long 0, .ref ((u 3) 13), .ref ((u 3) 14), .ref ((u 3) 15), .ref ((u 3) 16)]))]) hE hP [0, 20, 33] rfl)⟩ rfl rfl hl.1 rfl (lv_room (Nat.le_of_ble_eq_true rfl)) dL_law_576 ⟨(Nat.le_of_ble_eq_true rfl), (Nat.le_of_ble_eq_true rfl)⟩) (fun r_1 hr_1 => ?_)
  obtain rfl : r_1 = (-2) := hr_1
  refine lv_aload_n hx hb dL_law_579 rfl (lv_at hl 1 rfl) ?_
  refine lv_aload_n hx hb dL_law_580 rfl (lv_at hl 3 rfl) ?_
  refine lv_iload_n hx hb dL_law_581 rfl (lv_at hl 0 rfl) ?_
  refine lv_iconst (v := 1) hx hb dL_law_582 (by decide) ?_
  refine lv_iadd hx hb dL_law_583 ?_
  refine gz_ni (v := 1) (by decide) ?_
  refine va_sld hx hb hX hbl hbA hS (gz_in (by decide)) dL_law_584 ?_
  refine gz_ni (v := y1) e1.symm ?_
  refine lv_aload_n hx hb dL_law_585 rfl (lv_at hl 3 rfl) ?_
  refine lv_iload_n hx hb dL_law_586 rfl (lv_at hl 0 rfl) ?_
  refine lv_iconst (v := 2) hx hb dL_law_587 (by decide) ?_
  refine lv_iadd hx hb dL_law_588 ?_
  refine gz_ni (v := 2) (by decide) ?_
  refine va_sld hx hb hX hbl hbA hS (gz_in (by decide)) dL_law_589 ?_
  refine gz_ni (v := y2) e2.symm ?_
  refine lv_aload_n hx hb dL_law_590 rfl (lv_at hl 3 rfl) ?_
  refine lv_iload_n hx hb dL_law_591 rfl (lv_at hl 0 rfl) ?_
  refine lv_iconst (v := 3) hx hb dL_law_592 (by decide) ?_
  refine lv_iadd hx hb dL_law_593 ?_
  refine gz_ni (v := 3) (by decide) ?_
  refine va_sld hx hb hX hbl hbA hS (gz_in (by decide)) dL_law_594 ?_
  refine gz_ni (v := y3) e3.symm ?_
  refine vp_callSi (W.runV (As := [.int y1, .int y2, .int y3]) (rest := [.int (-2)]) ⟨hx, hb, hml, hown, hts⟩ (m_ahead l G k sa q1 z y1 y2 y3) (cwV 3 hts g_L_77_m_ahead rfl rfl rfl (by decide +kernel) ⟨(Nat.le_of_ble_eq_true rfl), (Nat.le_of_ble_eq_true rfl)⟩) ⟨gR.bl, va_recv hE.K hP (ci := 11) (q0 := 112) rfl rfl, (gR.pre (wc := [(q1, .inr (11, [.ref (z 0), .int 0, .int 0, .ref (z 3), .ref (z 4), .ref (z 5), .ref (z 6), .ref (z 7), .int 0, .int 0, .int 0, .int 0, .int 0, .int 0, .int 0, .ref (z 15), .int 0, .ref (z 17), .int 0, .ref (z 19), .ref (z 20), .int (-1), .int 0, .ref (z 23), .int (-1), .int (-1), .int (-1), .int 0, .int (-1), .int 0, .ref (z 30), .int 0, .ref (z 32), .int 0, .int 0, .ref (z 35), .ref (z 36), .ref (z 37), .ref (z 38), .long 0, .ref (z 40), .ref (z 41), .ref (z 42), .ref (z 43)])), (z 20, .inl (k 0, 206, .inl (fun _ => 0)))]) hE hP [112, 122] rfl)⟩ rfl rfl hl.1 rfl (lv_room (Nat.le_of_ble_eq_true rfl)) dL_law_595 ⟨(Nat.le_of_ble_eq_true rfl), (Nat.le_of_ble_eq_true rfl)⟩) (fun r_2 hr_2 => ?_)
  obtain rfl : r_2 = (-2) := hr_2
  refine lv_icmp_eq (tgt := 1253) hx hb dL_law_598 (by decide) (fun _ => ?_) (fun h9 => absurd rfl h9)
  refine lv_iinc (v := 6) (lv' := [(3, .int 6), (2, .ref q1), (1, .ref q0), (0, .ref b)]) hx hb dL_law_1253 hl (k := 0) rfl (by decide) (by decide) rfl (fun ls hl => ?_)
  refine lv_goto (tgt := 18) hx hb dL_law_1256 (by decide) ?_
  refine lv_iload_n hx hb dL_law_18 rfl (lv_at hl 0 rfl) ?_
  refine lv_aload_n hx hb dL_law_19 rfl (lv_at hl 3 rfl) ?_
  refine va_slen hx hb hX hbl hbA hS dL_law_20 ?_
  refine gz_ni (v := 6) (by decide) ?_
  refine lv_bipush (v := 6) hx hb dL_law_21 (by decide) ?_
  refine lv_isub hx hb dL_law_23 ?_
  refine gz_ni (v := 0) (by decide) ?_
  refine lv_icmp_gt (tgt := 1259) hx hb dL_law_24 (by decide) (fun _ => ?_) (fun h9 => absurd h9 (by decide))
  refine lv_iconst (v := 1) hx hb dL_law_1259 (by decide) ?_
  refine va_forget (fun q hq => by have h9 := hS.2.2 q hq; rw [hAe] at h9; exact h9) ?_
  refine W.widen (k := 600000) (n := 7302250) (Nat.le_of_ble_eq_true rfl) (Nat.le_of_ble_eq_true rfl) ?_
  exact lw_ret hx hb hr hlocks dL_law_1260
set_option maxHeartbeats 4000000 in
set_option maxRecDepth 100000 in
theorem law_goes {p : Program} {e : Env} {s : State} {m : MethodId} {below : List Frame} {meth : Method} {c : Code} (l : Launch) (G : va_G) (k : Nat → ClassId) (sa : Nat → Nat) {b : Nat} {xs : Nat → Int32} (C0 : lw_At p s m meth c b 6 xs) (hE : gE G k sa s) {A : Nat → Prop} (hAe : A = fun q => s.heap.size ≤ q) {H : Heap} {locs : List Loc} {ls : Array Slot} (q0 q1 : Nat) (u : Nat → Nat → Nat) (z : Nat → Nat) (hP : va_P G vwCl (ggW k q0 u ++ mmW k q1 z) H) (hD : va_D A (ggW k q0 u ++ mmW k q1 z)) (hS : va_S A s.heap H locs) (hl : lv_has ls 4 [(3, .int 0), (2, .ref q1), (1, .ref q0), (0, .ref b)]) : W p l e room_1 s m #[Value.ref b] below meth c H locs 285 12688 (lw_Z below #[Value.ref b] s) (F0 m 603 ls []) := by
  obtain ⟨hx, hb, hr, hml, hown, hts, hX, hbl, hlocks, hgv⟩ := id C0
  have hts := hts
  have hA : ∀ q : Nat, s.heap.size ≤ q → A q := by rw [hAe]; exact fun _ h => h
  have hbA : ¬ A b := by rw [hAe]; exact Nat.not_le.mpr hbl
  obtain ⟨y1, e1⟩ : ∃ y : Int32, y = xs (1 : Int32).toNatClampNeg := ⟨_, rfl⟩
  refine lv_aload_n hx hb dL_law_603 rfl (lv_at hl 2 rfl) ?_
  refine lv_aload_n hx hb dL_law_604 rfl (lv_at hl 3 rfl) ?_
  refine lv_iload_n hx hb dL_law_605 rfl (lv_at hl 0 rfl) ?_
  refine lv_iconst (v := 1) hx hb dL_law_606 (by decide) ?_
  refine lv_iadd hx hb dL_law_607 ?_
  refine gz_ni (v := 1) (by decide) ?_
  refine va_sld hx hb hX hbl hbA hS (gz_in (by decide)) dL_law_608 ?_
  refine gz_ni (v := y1) e1.symm ?_
  refine vp_callSi (W.runV (As := [.int y1]) (rest := []) ⟨hx, hb, hml, hown, hts⟩ (c_X10_goes l G k sa q0 (u 0) (u 3) y1) (cwV 1 hts g_L_78_c_X10_goes rfl rfl rfl (by decide +kernel) ⟨(Nat.le_of_ble_eq_true rfl), (Nat.le_of_ble_eq_true rfl)⟩) ⟨gR.bl, va_recv hE.K hP (ci := 10) (q0 := 0) rfl rfl, (gR.pre (wc := [(q0, .inr (10, [.ref ((u 0) 0), .ref ((u 0) 1), .ref ((u 0) 2), .ref ((u 0) 3), .ref ((u 0) 4), .int 0, .ref ((u 0) 5), .ref ((u 0) 6), .ref ((u 0) 7), .ref ((u 0) 8), .ref ((u 0) 9), .ref ((u 0) 10), .ref ((u 0) 11), .ref ((u 0) 12), .ref ((u 0) 13), .int 0])), ((u 0) 5, .inr (9, [.ref ((u 3) 0), .ref ((u 3) 1), .ref ((u 3) 2), .ref ((u 3) 3), .ref ((u 3) 4), .int 0, .int 0, .int (-1), .int 0])), ((u 3) 1, .inr (2, [.int 0, .int 0, .long 0, .ref ((u 3) 13), .ref ((u 3) 14), .ref ((u 3) 15), .ref ((u 3) 16)]))]) hE hP [0, 20, 33] rfl)⟩ rfl rfl hl.1 rfl (lv_room (Nat.le_of_ble_eq_true rfl)) dL_law_609 ⟨(Nat.le_of_ble_eq_true rfl), (Nat.le_of_ble_eq_true rfl)⟩) (fun r_1 hr_1 => ?_)
  obtain rfl : r_1 = (-1) := hr_1
  refine lv_aload_n hx hb dL_law_612 rfl (lv_at hl 1 rfl) ?_
  refine lv_aload_n hx hb dL_law_613 rfl (lv_at hl 3 rfl) ?_
  refine lv_iload_n hx hb dL_law_614 rfl (lv_at hl 0 rfl) ?_
  refine lv_iconst (v := 1) hx hb dL_law_615 (by decide) ?_
  refine lv_iadd hx hb dL_law_616 ?_
  refine gz_ni (v := 1) (by decide) ?_
  refine va_sld hx hb hX hbl hbA hS (gz_in (by decide)) dL_law_617 ?_
  refine gz_ni (v := y1) e1.symm ?_
  refine vp_callSi (W.runV (As := [.int y1]) (rest := [.int (-1)]) ⟨hx, hb, hml, hown, hts⟩ (m_goes l G k sa q1 z y1) (cwV 1 hts g_L_81_m_goes rfl rfl rfl (by decide +kernel) ⟨(Nat.le_of_ble_eq_true rfl), (Nat.le_of_ble_eq_true rfl)⟩) ⟨gR.bl, va_recv hE.K hP (ci := 11) (q0 := 112) rfl rfl, (gR.pre (wc := [(q1, .inr (11, [.ref (z 0), .int 0, .int 0, .ref (z 3), .ref (z 4), .ref (z 5), .ref (z 6), .ref (z 7), .int 0, .int 0, .int 0, .int 0, .int 0, .int 0, .int 0, .ref (z 15), .int 0, .ref (z 17), .int 0, .ref (z 19), .ref (z 20), .int (-1), .int 0, .ref (z 23), .int (-1), .int (-1), .int (-1), .int 0, .int (-1), .int 0, .ref (z 30), .int 0, .ref (z 32), .int 0, .int 0, .ref (z 35), .ref (z 36), .ref (z 37), .ref (z 38), .long 0, .ref (z 40), .ref (z 41), .ref (z 42), .ref (z 43)])), (z 20, .inl (k 0, 206, .inl (fun _ => 0)))]) hE hP [112, 122] rfl)⟩ rfl rfl hl.1 rfl (lv_room (Nat.le_of_ble_eq_true rfl)) dL_law_618 ⟨(Nat.le_of_ble_eq_true rfl), (Nat.le_of_ble_eq_true rfl)⟩) (fun r_2 hr_2 => ?_)
  obtain rfl : r_2 = (-1) := hr_2
  refine lv_icmp_eq (tgt := 1253) hx hb dL_law_621 (by decide) (fun _ => ?_) (fun h9 => absurd rfl h9)
  refine lv_iinc (v := 6) (lv' := [(3, .int 6), (2, .ref q1), (1, .ref q0), (0, .ref b)]) hx hb dL_law_1253 hl (k := 0) rfl (by decide) (by decide) rfl (fun ls hl => ?_)
  refine lv_goto (tgt := 18) hx hb dL_law_1256 (by decide) ?_
  refine lv_iload_n hx hb dL_law_18 rfl (lv_at hl 0 rfl) ?_
  refine lv_aload_n hx hb dL_law_19 rfl (lv_at hl 3 rfl) ?_
  refine va_slen hx hb hX hbl hbA hS dL_law_20 ?_
  refine gz_ni (v := 6) (by decide) ?_
  refine lv_bipush (v := 6) hx hb dL_law_21 (by decide) ?_
  refine lv_isub hx hb dL_law_23 ?_
  refine gz_ni (v := 0) (by decide) ?_
  refine lv_icmp_gt (tgt := 1259) hx hb dL_law_24 (by decide) (fun _ => ?_) (fun h9 => absurd h9 (by decide))
  refine lv_iconst (v := 1) hx hb dL_law_1259 (by decide) ?_
  refine va_forget (fun q hq => by have h9 := hS.2.2 q hq; rw [hAe] at h9; exact h9) ?_
  refine W.widen (k := 600000) (n := 7302250) (Nat.le_of_ble_eq_true rfl) (Nat.le_of_ble_eq_true rfl) ?_
  exact lw_ret hx hb hr hlocks dL_law_1260
set_option maxHeartbeats 4000000 in
set_option maxRecDepth 100000 in
theorem law_down {p : Program} {e : Env} {s : State} {m : MethodId} {below : List Frame} {meth : Method} {c : Code} (l : Launch) (G : va_G) (k : Nat → ClassId) (sa : Nat → Nat) {b : Nat} {xs : Nat → Int32} (C0 : lw_At p s m meth c b 6 xs) (hE : gE G k sa s) {A : Nat → Prop} (hAe : A = fun q => s.heap.size ≤ q) {H : Heap} {locs : List Loc} {ls : Array Slot} (q0 q1 : Nat) (u : Nat → Nat → Nat) (z : Nat → Nat) (hP : va_P G vwCl (ggW k q0 u ++ mmW k q1 z) H) (hD : va_D A (ggW k q0 u ++ mmW k q1 z)) (hS : va_S A s.heap H locs) (hl : lv_has ls 4 [(3, .int 0), (2, .ref q1), (1, .ref q0), (0, .ref b)]) : W p l e room_1 s m #[Value.ref b] below meth c H locs 285 12688 (lw_Z below #[Value.ref b] s) (F0 m 626 ls []) := by
  obtain ⟨hx, hb, hr, hml, hown, hts, hX, hbl, hlocks, hgv⟩ := id C0
  have hts := hts
  have hA : ∀ q : Nat, s.heap.size ≤ q → A q := by rw [hAe]; exact fun _ h => h
  have hbA : ¬ A b := by rw [hAe]; exact Nat.not_le.mpr hbl
  obtain ⟨y1, e1⟩ : ∃ y : Int32, y = xs (1 : Int32).toNatClampNeg := ⟨_, rfl⟩
  obtain ⟨y2, e2⟩ : ∃ y : Int32, y = xs (2 : Int32).toNatClampNeg := ⟨_, rfl⟩
  refine lv_aload_n hx hb dL_law_626 rfl (lv_at hl 2 rfl) ?_
  refine lv_aload_n hx hb dL_law_627 rfl (lv_at hl 3 rfl) ?_
  refine lv_iload_n hx hb dL_law_628 rfl (lv_at hl 0 rfl) ?_
  refine lv_iconst (v := 1) hx hb dL_law_629 (by decide) ?_
  refine lv_iadd hx hb dL_law_630 ?_
  refine gz_ni (v := 1) (by decide) ?_
  refine va_sld hx hb hX hbl hbA hS (gz_in (by decide)) dL_law_631 ?_
  refine gz_ni (v := y1) e1.symm ?_
  refine lv_aload_n hx hb dL_law_632 rfl (lv_at hl 3 rfl) ?_
  refine lv_iload_n hx hb dL_law_633 rfl (lv_at hl 0 rfl) ?_
  refine lv_iconst (v := 2) hx hb dL_law_634 (by decide) ?_
  refine lv_iadd hx hb dL_law_635 ?_
  refine gz_ni (v := 2) (by decide) ?_
  refine va_sld hx hb hX hbl hbA hS (gz_in (by decide)) dL_law_636 ?_
  refine gz_ni (v := y2) e2.symm ?_
  refine vp_callSi (W.runV (As := [.int y1, .int y2]) (rest := []) ⟨hx, hb, hml, hown, hts⟩ (c_X10_down l G k sa q0 (u 0) (u 3) y1 y2) (cwV 2 hts g_L_82_c_X10_down rfl rfl rfl (by decide +kernel) ⟨(Nat.le_of_ble_eq_true rfl), (Nat.le_of_ble_eq_true rfl)⟩) ⟨gR.bl, va_recv hE.K hP (ci := 10) (q0 := 0) rfl rfl, (gR.pre (wc := [(q0, .inr (10, [.ref ((u 0) 0), .ref ((u 0) 1), .ref ((u 0) 2), .ref ((u 0) 3), .ref ((u 0) 4), .int 0, .ref ((u 0) 5), .ref ((u 0) 6), .ref ((u 0) 7), .ref ((u 0) 8), .ref ((u 0) 9), .ref ((u 0) 10), .ref ((u 0) 11), .ref ((u 0) 12), .ref ((u 0) 13), .int 0])), ((u 0) 5, .inr (9, [.ref ((u 3) 0), .ref ((u 3) 1), .ref ((u 3) 2), .ref ((u 3) 3), .ref ((u 3) 4), .int 0, .int 0, .int (-1), .int 0])), ((u 3) 1, .inr (2, [.int 0, .int 0, .long 0, .ref ((u 3) 13), .ref ((u 3) 14), .ref ((u 3) 15), .ref ((u 3) 16)]))]) hE hP [0, 20, 33] rfl)⟩ rfl rfl hl.1 rfl (lv_room (Nat.le_of_ble_eq_true rfl)) dL_law_637 ⟨(Nat.le_of_ble_eq_true rfl), (Nat.le_of_ble_eq_true rfl)⟩) (fun r_1 hr_1 => ?_)
  obtain rfl : r_1 = (-3) := hr_1
  refine lv_aload_n hx hb dL_law_640 rfl (lv_at hl 1 rfl) ?_
  refine lv_aload_n hx hb dL_law_641 rfl (lv_at hl 3 rfl) ?_
  refine lv_iload_n hx hb dL_law_642 rfl (lv_at hl 0 rfl) ?_
  refine lv_iconst (v := 1) hx hb dL_law_643 (by decide) ?_
  refine lv_iadd hx hb dL_law_644 ?_
  refine gz_ni (v := 1) (by decide) ?_
  refine va_sld hx hb hX hbl hbA hS (gz_in (by decide)) dL_law_645 ?_
  refine gz_ni (v := y1) e1.symm ?_
  refine lv_aload_n hx hb dL_law_646 rfl (lv_at hl 3 rfl) ?_
  refine lv_iload_n hx hb dL_law_647 rfl (lv_at hl 0 rfl) ?_
  refine lv_iconst (v := 2) hx hb dL_law_648 (by decide) ?_
  refine lv_iadd hx hb dL_law_649 ?_
  refine gz_ni (v := 2) (by decide) ?_
  refine va_sld hx hb hX hbl hbA hS (gz_in (by decide)) dL_law_650 ?_
  refine gz_ni (v := y2) e2.symm ?_
  refine vp_callSi (W.runV (As := [.int y1, .int y2]) (rest := [.int (-3)]) ⟨hx, hb, hml, hown, hts⟩ (m_down l G k sa q1 z y1 y2) (cwV 2 hts g_L_85_m_down rfl rfl rfl (by decide +kernel) ⟨(Nat.le_of_ble_eq_true rfl), (Nat.le_of_ble_eq_true rfl)⟩) ⟨gR.bl, va_recv hE.K hP (ci := 11) (q0 := 112) rfl rfl, (gR.pre (wc := [(q1, .inr (11, [.ref (z 0), .int 0, .int 0, .ref (z 3), .ref (z 4), .ref (z 5), .ref (z 6), .ref (z 7), .int 0, .int 0, .int 0, .int 0, .int 0, .int 0, .int 0, .ref (z 15), .int 0, .ref (z 17), .int 0, .ref (z 19), .ref (z 20), .int (-1), .int 0, .ref (z 23), .int (-1), .int (-1), .int (-1), .int 0, .int (-1), .int 0, .ref (z 30), .int 0, .ref (z 32), .int 0, .int 0, .ref (z 35), .ref (z 36), .ref (z 37), .ref (z 38), .long 0, .ref (z 40), .ref (z 41), .ref (z 42), .ref (z 43)])), (z 20, .inl (k 0, 206, .inl (fun _ => 0)))]) hE hP [112, 122] rfl)⟩ rfl rfl hl.1 rfl (lv_room (Nat.le_of_ble_eq_true rfl)) dL_law_651 ⟨(Nat.le_of_ble_eq_true rfl), (Nat.le_of_ble_eq_true rfl)⟩) (fun r_2 hr_2 => ?_)
  obtain rfl : r_2 = (-3) := hr_2
  refine lv_icmp_eq (tgt := 1253) hx hb dL_law_654 (by decide) (fun _ => ?_) (fun h9 => absurd rfl h9)
  refine lv_iinc (v := 6) (lv' := [(3, .int 6), (2, .ref q1), (1, .ref q0), (0, .ref b)]) hx hb dL_law_1253 hl (k := 0) rfl (by decide) (by decide) rfl (fun ls hl => ?_)
  refine lv_goto (tgt := 18) hx hb dL_law_1256 (by decide) ?_
  refine lv_iload_n hx hb dL_law_18 rfl (lv_at hl 0 rfl) ?_
  refine lv_aload_n hx hb dL_law_19 rfl (lv_at hl 3 rfl) ?_
  refine va_slen hx hb hX hbl hbA hS dL_law_20 ?_
  refine gz_ni (v := 6) (by decide) ?_
  refine lv_bipush (v := 6) hx hb dL_law_21 (by decide) ?_
  refine lv_isub hx hb dL_law_23 ?_
  refine gz_ni (v := 0) (by decide) ?_
  refine lv_icmp_gt (tgt := 1259) hx hb dL_law_24 (by decide) (fun _ => ?_) (fun h9 => absurd h9 (by decide))
  refine lv_iconst (v := 1) hx hb dL_law_1259 (by decide) ?_
  refine va_forget (fun q hq => by have h9 := hS.2.2 q hq; rw [hAe] at h9; exact h9) ?_
  refine W.widen (k := 600000) (n := 7302250) (Nat.le_of_ble_eq_true rfl) (Nat.le_of_ble_eq_true rfl) ?_
  exact lw_ret hx hb hr hlocks dL_law_1260
set_option maxHeartbeats 4000000 in
set_option maxRecDepth 100000 in
theorem law_gone {p : Program} {e : Env} {s : State} {m : MethodId} {below : List Frame} {meth : Method} {c : Code} (l : Launch) (G : va_G) (k : Nat → ClassId) (sa : Nat → Nat) {b : Nat} {xs : Nat → Int32} (C0 : lw_At p s m meth c b 6 xs) (hE : gE G k sa s) {A : Nat → Prop} (hAe : A = fun q => s.heap.size ≤ q) {H : Heap} {locs : List Loc} {ls : Array Slot} (q0 q1 : Nat) (u : Nat → Nat → Nat) (z : Nat → Nat) (hP : va_P G vwCl (ggW k q0 u ++ mmW k q1 z) H) (hD : va_D A (ggW k q0 u ++ mmW k q1 z)) (hS : va_S A s.heap H locs) (hl : lv_has ls 4 [(3, .int 0), (2, .ref q1), (1, .ref q0), (0, .ref b)]) : W p l e room_1 s m #[Value.ref b] below meth c H locs 285 12688 (lw_Z below #[Value.ref b] s) (F0 m 659 ls []) := by
  obtain ⟨hx, hb, hr, hml, hown, hts, hX, hbl, hlocks, hgv⟩ := id C0
  have hts := hts
  have hA : ∀ q : Nat, s.heap.size ≤ q → A q := by rw [hAe]; exact fun _ h => h
  have hbA : ¬ A b := by rw [hAe]; exact Nat.not_le.mpr hbl
  obtain ⟨y1, e1⟩ : ∃ y : Int32, y = xs (1 : Int32).toNatClampNeg := ⟨_, rfl⟩
  obtain ⟨y2, e2⟩ : ∃ y : Int32, y = xs (2 : Int32).toNatClampNeg := ⟨_, rfl⟩
  obtain ⟨y3, e3⟩ : ∃ y : Int32, y = xs (3 : Int32).toNatClampNeg := ⟨_, rfl⟩
  refine lv_aload_n hx hb dL_law_659 rfl (lv_at hl 2 rfl) ?_
  refine lv_aload_n hx hb dL_law_660 rfl (lv_at hl 3 rfl) ?_
  refine lv_iload_n hx hb dL_law_661 rfl (lv_at hl 0 rfl) ?_
  refine lv_iconst (v := 1) hx hb dL_law_662 (by decide) ?_
  refine lv_iadd hx hb dL_law_663 ?_
  refine gz_ni (v := 1) (by decide) ?_
  refine va_sld hx hb hX hbl hbA hS (gz_in (by decide)) dL_law_664 ?_
  refine gz_ni (v := y1) e1.symm ?_
  refine lv_aload_n hx hb dL_law_665 rfl (lv_at hl 3 rfl) ?_
  refine lv_iload_n hx hb dL_law_666 rfl (lv_at hl 0 rfl) ?_
  refine lv_iconst (v := 2) hx hb dL_law_667 (by decide) ?_
  refine lv_iadd hx hb dL_law_668 ?_
  refine gz_ni (v := 2) (by decide) ?_
  refine va_sld hx hb hX hbl hbA hS (gz_in (by decide)) dL_law_669 ?_
  refine gz_ni (v := y2) e2.symm ?_
  refine lv_aload_n hx hb dL_law_670 rfl (lv_at hl 3 rfl) ?_
  refine lv_iload_n hx hb dL_law_671 rfl (lv_at hl 0 rfl) ?_
  refine lv_iconst (v := 3) hx hb dL_law_672 (by decide) ?_
  refine lv_iadd hx hb dL_law_673 ?_
  refine gz_ni (v := 3) (by decide) ?_
  refine va_sld hx hb hX hbl hbA hS (gz_in (by decide)) dL_law_674 ?_
  refine gz_ni (v := y3) e3.symm ?_
  refine vp_callSi (W.runV (As := [.int y1, .int y2, .int y3]) (rest := []) ⟨hx, hb, hml, hown, hts⟩ (c_X10_gone l G k sa q0 (u 0) (u 3) y1 y2 y3) (cwV 3 hts g_L_86_c_X10_gone rfl rfl rfl (by decide +kernel) ⟨(Nat.le_of_ble_eq_true rfl), (Nat.le_of_ble_eq_true rfl)⟩) ⟨gR.bl, va_recv hE.K hP (ci := 10) (q0 := 0) rfl rfl, (gR.pre (wc := [(q0, .inr (10, [.ref ((u 0) 0), .ref ((u 0) 1), .ref ((u 0) 2), .ref ((u 0) 3), .ref ((u 0) 4), .int 0, .ref ((u 0) 5), .ref ((u 0) 6), .ref ((u 0) 7), .ref ((u 0) 8), .ref ((u 0) 9), .ref ((u 0) 10), .ref ((u 0) 11), .ref ((u 0) 12), .ref ((u 0) 13), .int 0])), ((u 0) 5, .inr (9, [.ref ((u 3) 0), .ref ((u 3) 1), .ref ((u 3) 2), .ref ((u 3) 3), .ref ((u 3) 4), .int 0, .int 0, .int (-1), .int 0])), ((u 3) 1, .inr (2, [.int 0, .int 0, .long 0, .ref ((u 3) 13), .ref ((u 3) 14), .ref ((u 3) 15), .ref ((u 3) 16)]))]) hE hP [0, 20, 33] rfl)⟩ rfl rfl hl.1 rfl (lv_room (Nat.le_of_ble_eq_true rfl)) dL_law_675 ⟨(Nat.le_of_ble_eq_true rfl), (Nat.le_of_ble_eq_true rfl)⟩) (fun r_1 hr_1 => ?_)
  obtain rfl : r_1 = (-3) := hr_1
  refine lv_aload_n hx hb dL_law_678 rfl (lv_at hl 1 rfl) ?_
  refine lv_aload_n hx hb dL_law_679 rfl (lv_at hl 3 rfl) ?_
  refine lv_iload_n hx hb dL_law_680 rfl (lv_at hl 0 rfl) ?_
  refine lv_iconst (v := 1) hx hb dL_law_681 (by decide) ?_
  refine lv_iadd hx hb dL_law_682 ?_
  refine gz_ni (v := 1) (by decide) ?_
  refine va_sld hx hb hX hbl hbA hS (gz_in (by decide)) dL_law_683 ?_
  refine gz_ni (v := y1) e1.symm ?_
  refine lv_aload_n hx hb dL_law_684 rfl (lv_at hl 3 rfl) ?_
  refine lv_iload_n hx hb dL_law_685 rfl (lv_at hl 0 rfl) ?_
  refine lv_iconst (v := 2) hx hb dL_law_686 (by decide) ?_
  refine lv_iadd hx hb dL_law_687 ?_
  refine gz_ni (v := 2) (by decide) ?_
  refine va_sld hx hb hX hbl hbA hS (gz_in (by decide)) dL_law_688 ?_
  refine gz_ni (v := y2) e2.symm ?_
  refine lv_aload_n hx hb dL_law_689 rfl (lv_at hl 3 rfl) ?_
  refine lv_iload_n hx hb dL_law_690 rfl (lv_at hl 0 rfl) ?_
  refine lv_iconst (v := 3) hx hb dL_law_691 (by decide) ?_
  refine lv_iadd hx hb dL_law_692 ?_
  refine gz_ni (v := 3) (by decide) ?_
  refine va_sld hx hb hX hbl hbA hS (gz_in (by decide)) dL_law_693 ?_
  refine gz_ni (v := y3) e3.symm ?_
  refine vp_callSi (W.runV (As := [.int y1, .int y2, .int y3]) (rest := [.int (-3)]) ⟨hx, hb, hml, hown, hts⟩ (m_gone l G k sa q1 z y1 y2 y3) (cwV 3 hts g_L_89_m_gone rfl rfl rfl (by decide +kernel) ⟨(Nat.le_of_ble_eq_true rfl), (Nat.le_of_ble_eq_true rfl)⟩) ⟨gR.bl, va_recv hE.K hP (ci := 11) (q0 := 112) rfl rfl, (gR.pre (wc := [(q1, .inr (11, [.ref (z 0), .int 0, .int 0, .ref (z 3), .ref (z 4), .ref (z 5), .ref (z 6), .ref (z 7), .int 0, .int 0, .int 0, .int 0, .int 0, .int 0, .int 0, .ref (z 15), .int 0, .ref (z 17), .int 0, .ref (z 19), .ref (z 20), .int (-1), .int 0, .ref (z 23), .int (-1), .int (-1), .int (-1), .int 0, .int (-1), .int 0, .ref (z 30), .int 0, .ref (z 32), .int 0, .int 0, .ref (z 35), .ref (z 36), .ref (z 37), .ref (z 38), .long 0, .ref (z 40), .ref (z 41), .ref (z 42), .ref (z 43)])), (z 20, .inl (k 0, 206, .inl (fun _ => 0)))]) hE hP [112, 122] rfl)⟩ rfl rfl hl.1 rfl (lv_room (Nat.le_of_ble_eq_true rfl)) dL_law_694 ⟨(Nat.le_of_ble_eq_true rfl), (Nat.le_of_ble_eq_true rfl)⟩) (fun r_2 hr_2 => ?_)
  obtain rfl : r_2 = (-3) := hr_2
  refine lv_icmp_eq (tgt := 1253) hx hb dL_law_697 (by decide) (fun _ => ?_) (fun h9 => absurd rfl h9)
  refine lv_iinc (v := 6) (lv' := [(3, .int 6), (2, .ref q1), (1, .ref q0), (0, .ref b)]) hx hb dL_law_1253 hl (k := 0) rfl (by decide) (by decide) rfl (fun ls hl => ?_)
  refine lv_goto (tgt := 18) hx hb dL_law_1256 (by decide) ?_
  refine lv_iload_n hx hb dL_law_18 rfl (lv_at hl 0 rfl) ?_
  refine lv_aload_n hx hb dL_law_19 rfl (lv_at hl 3 rfl) ?_
  refine va_slen hx hb hX hbl hbA hS dL_law_20 ?_
  refine gz_ni (v := 6) (by decide) ?_
  refine lv_bipush (v := 6) hx hb dL_law_21 (by decide) ?_
  refine lv_isub hx hb dL_law_23 ?_
  refine gz_ni (v := 0) (by decide) ?_
  refine lv_icmp_gt (tgt := 1259) hx hb dL_law_24 (by decide) (fun _ => ?_) (fun h9 => absurd h9 (by decide))
  refine lv_iconst (v := 1) hx hb dL_law_1259 (by decide) ?_
  refine va_forget (fun q hq => by have h9 := hS.2.2 q hq; rw [hAe] at h9; exact h9) ?_
  refine W.widen (k := 600000) (n := 7302250) (Nat.le_of_ble_eq_true rfl) (Nat.le_of_ble_eq_true rfl) ?_
  exact lw_ret hx hb hr hlocks dL_law_1260
set_option maxHeartbeats 4000000 in
set_option maxRecDepth 100000 in
theorem law_timing {p : Program} {e : Env} {s : State} {m : MethodId} {below : List Frame} {meth : Method} {c : Code} (l : Launch) (G : va_G) (k : Nat → ClassId) (sa : Nat → Nat) {b : Nat} {xs : Nat → Int32} (C0 : lw_At p s m meth c b 6 xs) (hE : gE G k sa s) {A : Nat → Prop} (hAe : A = fun q => s.heap.size ≤ q) {H : Heap} {locs : List Loc} {ls : Array Slot} (q0 q1 : Nat) (u : Nat → Nat → Nat) (z : Nat → Nat) (hP : va_P G vwCl (ggW k q0 u ++ mmW k q1 z) H) (hD : va_D A (ggW k q0 u ++ mmW k q1 z)) (hS : va_S A s.heap H locs) (hl : lv_has ls 4 [(3, .int 0), (2, .ref q1), (1, .ref q0), (0, .ref b)]) : W p l e room_1 s m #[Value.ref b] below meth c H locs 285 12688 (lw_Z below #[Value.ref b] s) (F0 m 702 ls []) := by
  obtain ⟨hx, hb, hr, hml, hown, hts, hX, hbl, hlocks, hgv⟩ := id C0
  have hts := hts
  have hA : ∀ q : Nat, s.heap.size ≤ q → A q := by rw [hAe]; exact fun _ h => h
  have hbA : ¬ A b := by rw [hAe]; exact Nat.not_le.mpr hbl
  obtain ⟨y1, e1⟩ : ∃ y : Int32, y = xs (1 : Int32).toNatClampNeg := ⟨_, rfl⟩
  obtain ⟨y2, e2⟩ : ∃ y : Int32, y = xs (2 : Int32).toNatClampNeg := ⟨_, rfl⟩
  refine lv_aload_n hx hb dL_law_702 rfl (lv_at hl 2 rfl) ?_
  refine lv_aload_n hx hb dL_law_703 rfl (lv_at hl 3 rfl) ?_
  refine lv_iload_n hx hb dL_law_704 rfl (lv_at hl 0 rfl) ?_
  refine lv_iconst (v := 1) hx hb dL_law_705 (by decide) ?_
  refine lv_iadd hx hb dL_law_706 ?_
  refine gz_ni (v := 1) (by decide) ?_
  refine va_sld hx hb hX hbl hbA hS (gz_in (by decide)) dL_law_707 ?_
  refine gz_ni (v := y1) e1.symm ?_
  refine lv_aload_n hx hb dL_law_708 rfl (lv_at hl 3 rfl) ?_
  refine lv_iload_n hx hb dL_law_709 rfl (lv_at hl 0 rfl) ?_
  refine lv_iconst (v := 2) hx hb dL_law_710 (by decide) ?_
  refine lv_iadd hx hb dL_law_711 ?_
  refine gz_ni (v := 2) (by decide) ?_
  refine va_sld hx hb hX hbl hbA hS (gz_in (by decide)) dL_law_712 ?_
  refine gz_ni (v := y2) e2.symm ?_
  refine vp_callSi (W.runV (As := [.int y1, .int y2]) (rest := []) ⟨hx, hb, hml, hown, hts⟩ (c_X10_timing l G k sa q0 (u 0) (u 3) y1 y2) (cwV 2 hts g_L_90_c_X10_timing rfl rfl rfl (by decide +kernel) ⟨(Nat.le_of_ble_eq_true rfl), (Nat.le_of_ble_eq_true rfl)⟩) ⟨gR.bl, va_recv hE.K hP (ci := 10) (q0 := 0) rfl rfl, (gR.pre (wc := [(q0, .inr (10, [.ref ((u 0) 0), .ref ((u 0) 1), .ref ((u 0) 2), .ref ((u 0) 3), .ref ((u 0) 4), .int 0, .ref ((u 0) 5), .ref ((u 0) 6), .ref ((u 0) 7), .ref ((u 0) 8), .ref ((u 0) 9), .ref ((u 0) 10), .ref ((u 0) 11), .ref ((u 0) 12), .ref ((u 0) 13), .int 0])), ((u 0) 5, .inr (9, [.ref ((u 3) 0), .ref ((u 3) 1), .ref ((u 3) 2), .ref ((u 3) 3), .ref ((u 3) 4), .int 0, .int 0, .int (-1), .int 0])), ((u 3) 1, .inr (2, [.int 0, .int 0, .long 0, .ref ((u 3) 13), .ref ((u 3) 14), .ref ((u 3) 15), .ref ((u 3) 16)]))]) hE hP [0, 20, 33] rfl)⟩ rfl rfl hl.1 rfl (lv_room (Nat.le_of_ble_eq_true rfl)) dL_law_713 ⟨(Nat.le_of_ble_eq_true rfl), (Nat.le_of_ble_eq_true rfl)⟩) (fun r_1 hr_1 => ?_)
  obtain rfl : r_1 = (-1) := hr_1
  refine lv_aload_n hx hb dL_law_716 rfl (lv_at hl 1 rfl) ?_
  refine lv_aload_n hx hb dL_law_717 rfl (lv_at hl 3 rfl) ?_
  refine lv_iload_n hx hb dL_law_718 rfl (lv_at hl 0 rfl) ?_
  refine lv_iconst (v := 1) hx hb dL_law_719 (by decide) ?_
  refine lv_iadd hx hb dL_law_720 ?_
  refine gz_ni (v := 1) (by decide) ?_
  refine va_sld hx hb hX hbl hbA hS (gz_in (by decide)) dL_law_721 ?_
  refine gz_ni (v := y1) e1.symm ?_
  refine lv_aload_n hx hb dL_law_722 rfl (lv_at hl 3 rfl) ?_
  refine lv_iload_n hx hb dL_law_723 rfl (lv_at hl 0 rfl) ?_
  refine lv_iconst (v := 2) hx hb dL_law_724 (by decide) ?_
  refine lv_iadd hx hb dL_law_725 ?_
  refine gz_ni (v := 2) (by decide) ?_
  refine va_sld hx hb hX hbl hbA hS (gz_in (by decide)) dL_law_726 ?_
  refine gz_ni (v := y2) e2.symm ?_
  refine vp_callSi (W.runV (As := [.int y1, .int y2]) (rest := [.int (-1)]) ⟨hx, hb, hml, hown, hts⟩ (m_timing l G k sa q1 z y1 y2) (cwV 2 hts g_L_93_m_timing rfl rfl rfl (by decide +kernel) ⟨(Nat.le_of_ble_eq_true rfl), (Nat.le_of_ble_eq_true rfl)⟩) ⟨gR.bl, va_recv hE.K hP (ci := 11) (q0 := 112) rfl rfl, (gR.pre (wc := [(q1, .inr (11, [.ref (z 0), .int 0, .int 0, .ref (z 3), .ref (z 4), .ref (z 5), .ref (z 6), .ref (z 7), .int 0, .int 0, .int 0, .int 0, .int 0, .int 0, .int 0, .ref (z 15), .int 0, .ref (z 17), .int 0, .ref (z 19), .ref (z 20), .int (-1), .int 0, .ref (z 23), .int (-1), .int (-1), .int (-1), .int 0, .int (-1), .int 0, .ref (z 30), .int 0, .ref (z 32), .int 0, .int 0, .ref (z 35), .ref (z 36), .ref (z 37), .ref (z 38), .long 0, .ref (z 40), .ref (z 41), .ref (z 42), .ref (z 43)])), (z 20, .inl (k 0, 206, .inl (fun _ => 0)))]) hE hP [112, 122] rfl)⟩ rfl rfl hl.1 rfl (lv_room (Nat.le_of_ble_eq_true rfl)) dL_law_727 ⟨(Nat.le_of_ble_eq_true rfl), (Nat.le_of_ble_eq_true rfl)⟩) (fun r_2 hr_2 => ?_)
  obtain rfl : r_2 = (-1) := hr_2
  refine lv_icmp_eq (tgt := 1253) hx hb dL_law_730 (by decide) (fun _ => ?_) (fun h9 => absurd rfl h9)
  refine lv_iinc (v := 6) (lv' := [(3, .int 6), (2, .ref q1), (1, .ref q0), (0, .ref b)]) hx hb dL_law_1253 hl (k := 0) rfl (by decide) (by decide) rfl (fun ls hl => ?_)
  refine lv_goto (tgt := 18) hx hb dL_law_1256 (by decide) ?_
  refine lv_iload_n hx hb dL_law_18 rfl (lv_at hl 0 rfl) ?_
  refine lv_aload_n hx hb dL_law_19 rfl (lv_at hl 3 rfl) ?_
  refine va_slen hx hb hX hbl hbA hS dL_law_20 ?_
  refine gz_ni (v := 6) (by decide) ?_
  refine lv_bipush (v := 6) hx hb dL_law_21 (by decide) ?_
  refine lv_isub hx hb dL_law_23 ?_
  refine gz_ni (v := 0) (by decide) ?_
  refine lv_icmp_gt (tgt := 1259) hx hb dL_law_24 (by decide) (fun _ => ?_) (fun h9 => absurd h9 (by decide))
  refine lv_iconst (v := 1) hx hb dL_law_1259 (by decide) ?_
  refine va_forget (fun q hq => by have h9 := hS.2.2 q hq; rw [hAe] at h9; exact h9) ?_
  refine W.widen (k := 600000) (n := 7302250) (Nat.le_of_ble_eq_true rfl) (Nat.le_of_ble_eq_true rfl) ?_
  exact lw_ret hx hb hr hlocks dL_law_1260
set_option maxHeartbeats 4000000 in
set_option maxRecDepth 100000 in
theorem law_had {p : Program} {e : Env} {s : State} {m : MethodId} {below : List Frame} {meth : Method} {c : Code} (l : Launch) (G : va_G) (k : Nat → ClassId) (sa : Nat → Nat) {b : Nat} {xs : Nat → Int32} (C0 : lw_At p s m meth c b 6 xs) (hE : gE G k sa s) {A : Nat → Prop} (hAe : A = fun q => s.heap.size ≤ q) {H : Heap} {locs : List Loc} {ls : Array Slot} (q0 q1 : Nat) (u : Nat → Nat → Nat) (z : Nat → Nat) (hP : va_P G vwCl (ggW k q0 u ++ mmW k q1 z) H) (hD : va_D A (ggW k q0 u ++ mmW k q1 z)) (hS : va_S A s.heap H locs) (hl : lv_has ls 4 [(3, .int 0), (2, .ref q1), (1, .ref q0), (0, .ref b)]) : W p l e room_1 s m #[Value.ref b] below meth c H locs 285 12688 (lw_Z below #[Value.ref b] s) (F0 m 735 ls []) := by
  obtain ⟨hx, hb, hr, hml, hown, hts, hX, hbl, hlocks, hgv⟩ := id C0
  have hts := hts
  have hA : ∀ q : Nat, s.heap.size ≤ q → A q := by rw [hAe]; exact fun _ h => h
  have hbA : ¬ A b := by rw [hAe]; exact Nat.not_le.mpr hbl
  obtain ⟨y1, e1⟩ : ∃ y : Int32, y = xs (1 : Int32).toNatClampNeg := ⟨_, rfl⟩
  obtain ⟨y2, e2⟩ : ∃ y : Int32, y = xs (2 : Int32).toNatClampNeg := ⟨_, rfl⟩
  obtain ⟨y3, e3⟩ : ∃ y : Int32, y = xs (3 : Int32).toNatClampNeg := ⟨_, rfl⟩
  refine lv_aload_n hx hb dL_law_735 rfl (lv_at hl 2 rfl) ?_
  refine lv_aload_n hx hb dL_law_736 rfl (lv_at hl 3 rfl) ?_
  refine lv_iload_n hx hb dL_law_737 rfl (lv_at hl 0 rfl) ?_
  refine lv_iconst (v := 1) hx hb dL_law_738 (by decide) ?_
  refine lv_iadd hx hb dL_law_739 ?_
  refine gz_ni (v := 1) (by decide) ?_
  refine va_sld hx hb hX hbl hbA hS (gz_in (by decide)) dL_law_740 ?_
  refine gz_ni (v := y1) e1.symm ?_
  refine lv_aload_n hx hb dL_law_741 rfl (lv_at hl 3 rfl) ?_
  refine lv_iload_n hx hb dL_law_742 rfl (lv_at hl 0 rfl) ?_
  refine lv_iconst (v := 2) hx hb dL_law_743 (by decide) ?_
  refine lv_iadd hx hb dL_law_744 ?_
  refine gz_ni (v := 2) (by decide) ?_
  refine va_sld hx hb hX hbl hbA hS (gz_in (by decide)) dL_law_745 ?_
  refine gz_ni (v := y2) e2.symm ?_
  refine lv_aload_n hx hb dL_law_746 rfl (lv_at hl 3 rfl) ?_
  refine lv_iload_n hx hb dL_law_747 rfl (lv_at hl 0 rfl) ?_
  refine lv_iconst (v := 3) hx hb dL_law_748 (by decide) ?_
  refine lv_iadd hx hb dL_law_749 ?_
  refine gz_ni (v := 3) (by decide) ?_
  refine va_sld hx hb hX hbl hbA hS (gz_in (by decide)) dL_law_750 ?_
  refine gz_ni (v := y3) e3.symm ?_
  refine vp_callSi (W.runV (As := [.int y1, .int y2, .int y3]) (rest := []) ⟨hx, hb, hml, hown, hts⟩ (c_X10_had l G k sa q0 (u 0) (u 3) y1 y2 y3) (cwV 3 hts g_L_94_c_X10_had rfl rfl rfl (by decide +kernel) ⟨(Nat.le_of_ble_eq_true rfl), (Nat.le_of_ble_eq_true rfl)⟩) ⟨gR.bl, va_recv hE.K hP (ci := 10) (q0 := 0) rfl rfl, (gR.pre (wc := [(q0, .inr (10, [.ref ((u 0) 0), .ref ((u 0) 1), .ref ((u 0) 2), .ref ((u 0) 3), .ref ((u 0) 4), .int 0, .ref ((u 0) 5), .ref ((u 0) 6), .ref ((u 0) 7), .ref ((u 0) 8), .ref ((u 0) 9), .ref ((u 0) 10), .ref ((u 0) 11), .ref ((u 0) 12), .ref ((u 0) 13), .int 0])), ((u 0) 5, .inr (9, [.ref ((u 3) 0), .ref ((u 3) 1), .ref ((u 3) 2), .ref ((u 3) 3), .ref ((u 3) 4), .int 0, .int 0, .int (-1), .int 0])), ((u 3) 1, .inr (2, [.int 0, .int 0, .long 0, .ref ((u 3) 13), .ref ((u 3) 14), .ref ((u 3) 15), .ref ((u 3) 16)]))]) hE hP [0, 20, 33] rfl)⟩ rfl rfl hl.1 rfl (lv_room (Nat.le_of_ble_eq_true rfl)) dL_law_751 ⟨(Nat.le_of_ble_eq_true rfl), (Nat.le_of_ble_eq_true rfl)⟩) (fun r_1 hr_1 => ?_)
  obtain rfl : r_1 = (-1) := hr_1
  refine lv_aload_n hx hb dL_law_754 rfl (lv_at hl 1 rfl) ?_
  refine lv_aload_n hx hb dL_law_755 rfl (lv_at hl 3 rfl) ?_
  refine lv_iload_n hx hb dL_law_756 rfl (lv_at hl 0 rfl) ?_
  refine lv_iconst (v := 1) hx hb dL_law_757 (by decide) ?_
  refine lv_iadd hx hb dL_law_758 ?_
  refine gz_ni (v := 1) (by decide) ?_
  refine va_sld hx hb hX hbl hbA hS (gz_in (by decide)) dL_law_759 ?_
  refine gz_ni (v := y1) e1.symm ?_
  refine lv_aload_n hx hb dL_law_760 rfl (lv_at hl 3 rfl) ?_
  refine lv_iload_n hx hb dL_law_761 rfl (lv_at hl 0 rfl) ?_
  refine lv_iconst (v := 2) hx hb dL_law_762 (by decide) ?_
  refine lv_iadd hx hb dL_law_763 ?_
  refine gz_ni (v := 2) (by decide) ?_
  refine va_sld hx hb hX hbl hbA hS (gz_in (by decide)) dL_law_764 ?_
  refine gz_ni (v := y2) e2.symm ?_
  refine lv_aload_n hx hb dL_law_765 rfl (lv_at hl 3 rfl) ?_
  refine lv_iload_n hx hb dL_law_766 rfl (lv_at hl 0 rfl) ?_
  refine lv_iconst (v := 3) hx hb dL_law_767 (by decide) ?_
  refine lv_iadd hx hb dL_law_768 ?_
  refine gz_ni (v := 3) (by decide) ?_
  refine va_sld hx hb hX hbl hbA hS (gz_in (by decide)) dL_law_769 ?_
  refine gz_ni (v := y3) e3.symm ?_
  refine vp_callSi (W.runV (As := [.int y1, .int y2, .int y3]) (rest := [.int (-1)]) ⟨hx, hb, hml, hown, hts⟩ (m_had l G k sa q1 z y1 y2 y3) (cwV 3 hts g_L_97_m_had rfl rfl rfl (by decide +kernel) ⟨(Nat.le_of_ble_eq_true rfl), (Nat.le_of_ble_eq_true rfl)⟩) ⟨gR.bl, va_recv hE.K hP (ci := 11) (q0 := 112) rfl rfl, (gR.pre (wc := [(q1, .inr (11, [.ref (z 0), .int 0, .int 0, .ref (z 3), .ref (z 4), .ref (z 5), .ref (z 6), .ref (z 7), .int 0, .int 0, .int 0, .int 0, .int 0, .int 0, .int 0, .ref (z 15), .int 0, .ref (z 17), .int 0, .ref (z 19), .ref (z 20), .int (-1), .int 0, .ref (z 23), .int (-1), .int (-1), .int (-1), .int 0, .int (-1), .int 0, .ref (z 30), .int 0, .ref (z 32), .int 0, .int 0, .ref (z 35), .ref (z 36), .ref (z 37), .ref (z 38), .long 0, .ref (z 40), .ref (z 41), .ref (z 42), .ref (z 43)])), (z 20, .inl (k 0, 206, .inl (fun _ => 0)))]) hE hP [112, 122] rfl)⟩ rfl rfl hl.1 rfl (lv_room (Nat.le_of_ble_eq_true rfl)) dL_law_770 ⟨(Nat.le_of_ble_eq_true rfl), (Nat.le_of_ble_eq_true rfl)⟩) (fun r_2 hr_2 => ?_)
  obtain rfl : r_2 = (-1) := hr_2
  refine lv_icmp_eq (tgt := 1253) hx hb dL_law_773 (by decide) (fun _ => ?_) (fun h9 => absurd rfl h9)
  refine lv_iinc (v := 6) (lv' := [(3, .int 6), (2, .ref q1), (1, .ref q0), (0, .ref b)]) hx hb dL_law_1253 hl (k := 0) rfl (by decide) (by decide) rfl (fun ls hl => ?_)
  refine lv_goto (tgt := 18) hx hb dL_law_1256 (by decide) ?_
  refine lv_iload_n hx hb dL_law_18 rfl (lv_at hl 0 rfl) ?_
  refine lv_aload_n hx hb dL_law_19 rfl (lv_at hl 3 rfl) ?_
  refine va_slen hx hb hX hbl hbA hS dL_law_20 ?_
  refine gz_ni (v := 6) (by decide) ?_
  refine lv_bipush (v := 6) hx hb dL_law_21 (by decide) ?_
  refine lv_isub hx hb dL_law_23 ?_
  refine gz_ni (v := 0) (by decide) ?_
  refine lv_icmp_gt (tgt := 1259) hx hb dL_law_24 (by decide) (fun _ => ?_) (fun h9 => absurd h9 (by decide))
  refine lv_iconst (v := 1) hx hb dL_law_1259 (by decide) ?_
  refine va_forget (fun q hq => by have h9 := hS.2.2 q hq; rw [hAe] at h9; exact h9) ?_
  refine W.widen (k := 600000) (n := 7302250) (Nat.le_of_ble_eq_true rfl) (Nat.le_of_ble_eq_true rfl) ?_
  exact lw_ret hx hb hr hlocks dL_law_1260
set_option maxHeartbeats 4000000 in
set_option maxRecDepth 100000 in
theorem law_tangle {p : Program} {e : Env} {s : State} {m : MethodId} {below : List Frame} {meth : Method} {c : Code} (l : Launch) (G : va_G) (k : Nat → ClassId) (sa : Nat → Nat) {b : Nat} {xs : Nat → Int32} (C0 : lw_At p s m meth c b 6 xs) (hE : gE G k sa s) {A : Nat → Prop} (hAe : A = fun q => s.heap.size ≤ q) {H : Heap} {locs : List Loc} {ls : Array Slot} (q0 q1 : Nat) (u : Nat → Nat → Nat) (z : Nat → Nat) (hP : va_P G vwCl (ggW k q0 u ++ mmW k q1 z) H) (hD : va_D A (ggW k q0 u ++ mmW k q1 z)) (hS : va_S A s.heap H locs) (hl : lv_has ls 4 [(3, .int 0), (2, .ref q1), (1, .ref q0), (0, .ref b)]) : W p l e room_1 s m #[Value.ref b] below meth c H locs 285 12688 (lw_Z below #[Value.ref b] s) (F0 m 778 ls []) := by
  obtain ⟨hx, hb, hr, hml, hown, hts, hX, hbl, hlocks, hgv⟩ := id C0
  have hts := hts
  have hA : ∀ q : Nat, s.heap.size ≤ q → A q := by rw [hAe]; exact fun _ h => h
  have hbA : ¬ A b := by rw [hAe]; exact Nat.not_le.mpr hbl
  obtain ⟨y1, e1⟩ : ∃ y : Int32, y = xs (1 : Int32).toNatClampNeg := ⟨_, rfl⟩
  refine lv_aload_n hx hb dL_law_778 rfl (lv_at hl 2 rfl) ?_
  refine lv_aload_n hx hb dL_law_779 rfl (lv_at hl 3 rfl) ?_
  refine lv_iload_n hx hb dL_law_780 rfl (lv_at hl 0 rfl) ?_
  refine lv_iconst (v := 1) hx hb dL_law_781 (by decide) ?_
  refine lv_iadd hx hb dL_law_782 ?_
  refine gz_ni (v := 1) (by decide) ?_
  refine va_sld hx hb hX hbl hbA hS (gz_in (by decide)) dL_law_783 ?_
  refine gz_ni (v := y1) e1.symm ?_
  refine vp_callSi (W.runV (As := [.int y1]) (rest := []) ⟨hx, hb, hml, hown, hts⟩ (c_X10_tangle l G k sa q0 (u 0) (u 3) y1) (cwV 1 hts g_L_98_c_X10_tangle rfl rfl rfl (by decide +kernel) ⟨(Nat.le_of_ble_eq_true rfl), (Nat.le_of_ble_eq_true rfl)⟩) ⟨gR.bl, va_recv hE.K hP (ci := 10) (q0 := 0) rfl rfl, (gR.pre (wc := [(q0, .inr (10, [.ref ((u 0) 0), .ref ((u 0) 1), .ref ((u 0) 2), .ref ((u 0) 3), .ref ((u 0) 4), .int 0, .ref ((u 0) 5), .ref ((u 0) 6), .ref ((u 0) 7), .ref ((u 0) 8), .ref ((u 0) 9), .ref ((u 0) 10), .ref ((u 0) 11), .ref ((u 0) 12), .ref ((u 0) 13), .int 0])), ((u 0) 5, .inr (9, [.ref ((u 3) 0), .ref ((u 3) 1), .ref ((u 3) 2), .ref ((u 3) 3), .ref ((u 3) 4), .int 0, .int 0, .int (-1), .int 0])), ((u 3) 0, .inr (0, [.int 0, .int 0, .ref ((u 3) 5), .ref ((u 3) 6), .ref ((u 3) 7), .ref ((u 3) 8)]))]) hE hP [0, 20, 24] rfl)⟩ rfl rfl hl.1 rfl (lv_room (Nat.le_of_ble_eq_true rfl)) dL_law_784 ⟨(Nat.le_of_ble_eq_true rfl), (Nat.le_of_ble_eq_true rfl)⟩) (fun r_1 hr_1 => ?_)
  obtain rfl : r_1 = (-1) := hr_1
  refine lv_aload_n hx hb dL_law_787 rfl (lv_at hl 1 rfl) ?_
  refine lv_aload_n hx hb dL_law_788 rfl (lv_at hl 3 rfl) ?_
  refine lv_iload_n hx hb dL_law_789 rfl (lv_at hl 0 rfl) ?_
  refine lv_iconst (v := 1) hx hb dL_law_790 (by decide) ?_
  refine lv_iadd hx hb dL_law_791 ?_
  refine gz_ni (v := 1) (by decide) ?_
  refine va_sld hx hb hX hbl hbA hS (gz_in (by decide)) dL_law_792 ?_
  refine gz_ni (v := y1) e1.symm ?_
  refine vp_callSi (W.runV (As := [.int y1]) (rest := [.int (-1)]) ⟨hx, hb, hml, hown, hts⟩ (m_tangle l G k sa q1 z y1) (cwV 1 hts g_L_101_m_tangle rfl rfl rfl (by decide +kernel) ⟨(Nat.le_of_ble_eq_true rfl), (Nat.le_of_ble_eq_true rfl)⟩) ⟨gR.bl, va_recv hE.K hP (ci := 11) (q0 := 112) rfl rfl, (gR.pre (wc := [(q1, .inr (11, [.ref (z 0), .int 0, .int 0, .ref (z 3), .ref (z 4), .ref (z 5), .ref (z 6), .ref (z 7), .int 0, .int 0, .int 0, .int 0, .int 0, .int 0, .int 0, .ref (z 15), .int 0, .ref (z 17), .int 0, .ref (z 19), .ref (z 20), .int (-1), .int 0, .ref (z 23), .int (-1), .int (-1), .int (-1), .int 0, .int (-1), .int 0, .ref (z 30), .int 0, .ref (z 32), .int 0, .int 0, .ref (z 35), .ref (z 36), .ref (z 37), .ref (z 38), .long 0, .ref (z 40), .ref (z 41), .ref (z 42), .ref (z 43)])), (z 20, .inl (k 0, 206, .inl (fun _ => 0)))]) hE hP [112, 122] rfl)⟩ rfl rfl hl.1 rfl (lv_room (Nat.le_of_ble_eq_true rfl)) dL_law_793 ⟨(Nat.le_of_ble_eq_true rfl), (Nat.le_of_ble_eq_true rfl)⟩) (fun r_2 hr_2 => ?_)
  obtain rfl : r_2 = (-1) := hr_2
  refine lv_icmp_eq (tgt := 1253) hx hb dL_law_796 (by decide) (fun _ => ?_) (fun h9 => absurd rfl h9)
  refine lv_iinc (v := 6) (lv' := [(3, .int 6), (2, .ref q1), (1, .ref q0), (0, .ref b)]) hx hb dL_law_1253 hl (k := 0) rfl (by decide) (by decide) rfl (fun ls hl => ?_)
  refine lv_goto (tgt := 18) hx hb dL_law_1256 (by decide) ?_
  refine lv_iload_n hx hb dL_law_18 rfl (lv_at hl 0 rfl) ?_
  refine lv_aload_n hx hb dL_law_19 rfl (lv_at hl 3 rfl) ?_
  refine va_slen hx hb hX hbl hbA hS dL_law_20 ?_
  refine gz_ni (v := 6) (by decide) ?_
  refine lv_bipush (v := 6) hx hb dL_law_21 (by decide) ?_
  refine lv_isub hx hb dL_law_23 ?_
  refine gz_ni (v := 0) (by decide) ?_
  refine lv_icmp_gt (tgt := 1259) hx hb dL_law_24 (by decide) (fun _ => ?_) (fun h9 => absurd h9 (by decide))
  refine lv_iconst (v := 1) hx hb dL_law_1259 (by decide) ?_
  refine va_forget (fun q hq => by have h9 := hS.2.2 q hq; rw [hAe] at h9; exact h9) ?_
  refine W.widen (k := 600000) (n := 7302250) (Nat.le_of_ble_eq_true rfl) (Nat.le_of_ble_eq_true rfl) ?_
  exact lw_ret hx hb hr hlocks dL_law_1260
set_option maxHeartbeats 4000000 in
set_option maxRecDepth 100000 in
theorem law_flock {p : Program} {e : Env} {s : State} {m : MethodId} {below : List Frame} {meth : Method} {c : Code} (l : Launch) (G : va_G) (k : Nat → ClassId) (sa : Nat → Nat) {b : Nat} {xs : Nat → Int32} (C0 : lw_At p s m meth c b 6 xs) (hE : gE G k sa s) {A : Nat → Prop} (hAe : A = fun q => s.heap.size ≤ q) {H : Heap} {locs : List Loc} {ls : Array Slot} (q0 q1 : Nat) (u : Nat → Nat → Nat) (z : Nat → Nat) (hP : va_P G vwCl (ggW k q0 u ++ mmW k q1 z) H) (hD : va_D A (ggW k q0 u ++ mmW k q1 z)) (hS : va_S A s.heap H locs) (hl : lv_has ls 4 [(3, .int 0), (2, .ref q1), (1, .ref q0), (0, .ref b)]) : W p l e room_1 s m #[Value.ref b] below meth c H locs 285 12688 (lw_Z below #[Value.ref b] s) (F0 m 801 ls []) := by
  obtain ⟨hx, hb, hr, hml, hown, hts, hX, hbl, hlocks, hgv⟩ := id C0
  have hts := hts
  have hA : ∀ q : Nat, s.heap.size ≤ q → A q := by rw [hAe]; exact fun _ h => h
  have hbA : ¬ A b := by rw [hAe]; exact Nat.not_le.mpr hbl
  obtain ⟨y1, e1⟩ : ∃ y : Int32, y = xs (1 : Int32).toNatClampNeg := ⟨_, rfl⟩
  obtain ⟨y2, e2⟩ : ∃ y : Int32, y = xs (2 : Int32).toNatClampNeg := ⟨_, rfl⟩
  refine lv_aload_n hx hb dL_law_801 rfl (lv_at hl 2 rfl) ?_
  refine lv_aload_n hx hb dL_law_802 rfl (lv_at hl 3 rfl) ?_
  refine lv_iload_n hx hb dL_law_803 rfl (lv_at hl 0 rfl) ?_
  refine lv_iconst (v := 1) hx hb dL_law_804 (by decide) ?_
  refine lv_iadd hx hb dL_law_805 ?_
  refine gz_ni (v := 1) (by decide) ?_
  refine va_sld hx hb hX hbl hbA hS (gz_in (by decide)) dL_law_806 ?_
  refine gz_ni (v := y1) e1.symm ?_
  refine lv_aload_n hx hb dL_law_807 rfl (lv_at hl 3 rfl) ?_
  refine lv_iload_n hx hb dL_law_808 rfl (lv_at hl 0 rfl) ?_
  refine lv_iconst (v := 2) hx hb dL_law_809 (by decide) ?_
  refine lv_iadd hx hb dL_law_810 ?_
  refine gz_ni (v := 2) (by decide) ?_
  refine va_sld hx hb hX hbl hbA hS (gz_in (by decide)) dL_law_811 ?_
  refine gz_ni (v := y2) e2.symm ?_
  refine vp_callSi (W.runV (As := [.int y1, .int y2]) (rest := []) ⟨hx, hb, hml, hown, hts⟩ (c_X10_flock l G k sa q0 (u 0) (u 3) y1 y2) (cwV 2 hts g_L_102_c_X10_flock rfl rfl rfl (by decide +kernel) ⟨(Nat.le_of_ble_eq_true rfl), (Nat.le_of_ble_eq_true rfl)⟩) ⟨gR.bl, va_recv hE.K hP (ci := 10) (q0 := 0) rfl rfl, (gR.pre (wc := [(q0, .inr (10, [.ref ((u 0) 0), .ref ((u 0) 1), .ref ((u 0) 2), .ref ((u 0) 3), .ref ((u 0) 4), .int 0, .ref ((u 0) 5), .ref ((u 0) 6), .ref ((u 0) 7), .ref ((u 0) 8), .ref ((u 0) 9), .ref ((u 0) 10), .ref ((u 0) 11), .ref ((u 0) 12), .ref ((u 0) 13), .int 0])), ((u 0) 5, .inr (9, [.ref ((u 3) 0), .ref ((u 3) 1), .ref ((u 3) 2), .ref ((u 3) 3), .ref ((u 3) 4), .int 0, .int 0, .int (-1), .int 0])), ((u 3) 0, .inr (0, [.int 0, .int 0, .ref ((u 3) 5), .ref ((u 3) 6), .ref ((u 3) 7), .ref ((u 3) 8)]))]) hE hP [0, 20, 24] rfl)⟩ rfl rfl hl.1 rfl (lv_room (Nat.le_of_ble_eq_true rfl)) dL_law_812 ⟨(Nat.le_of_ble_eq_true rfl), (Nat.le_of_ble_eq_true rfl)⟩) (fun r_1 hr_1 => ?_)
  obtain rfl : r_1 = (-1) := hr_1
  refine lv_aload_n hx hb dL_law_815 rfl (lv_at hl 1 rfl) ?_
  refine lv_aload_n hx hb dL_law_816 rfl (lv_at hl 3 rfl) ?_
  refine lv_iload_n hx hb dL_law_817 rfl (lv_at hl 0 rfl) ?_
  refine lv_iconst (v := 1) hx hb dL_law_818 (by decide) ?_
  refine lv_iadd hx hb dL_law_819 ?_
  refine gz_ni (v := 1) (by decide) ?_
  refine va_sld hx hb hX hbl hbA hS (gz_in (by decide)) dL_law_820 ?_
  refine gz_ni (v := y1) e1.symm ?_
  refine lv_aload_n hx hb dL_law_821 rfl (lv_at hl 3 rfl) ?_
  refine lv_iload_n hx hb dL_law_822 rfl (lv_at hl 0 rfl) ?_
  refine lv_iconst (v := 2) hx hb dL_law_823 (by decide) ?_
  refine lv_iadd hx hb dL_law_824 ?_
  refine gz_ni (v := 2) (by decide) ?_
  refine va_sld hx hb hX hbl hbA hS (gz_in (by decide)) dL_law_825 ?_
  refine gz_ni (v := y2) e2.symm ?_
  refine vp_callSi (W.runV (As := [.int y1, .int y2]) (rest := [.int (-1)]) ⟨hx, hb, hml, hown, hts⟩ (m_flock l G k sa q1 z y1 y2) (cwV 2 hts g_L_105_m_flock rfl rfl rfl (by decide +kernel) ⟨(Nat.le_of_ble_eq_true rfl), (Nat.le_of_ble_eq_true rfl)⟩) ⟨gR.bl, va_recv hE.K hP (ci := 11) (q0 := 112) rfl rfl, (gR.pre (wc := [(q1, .inr (11, [.ref (z 0), .int 0, .int 0, .ref (z 3), .ref (z 4), .ref (z 5), .ref (z 6), .ref (z 7), .int 0, .int 0, .int 0, .int 0, .int 0, .int 0, .int 0, .ref (z 15), .int 0, .ref (z 17), .int 0, .ref (z 19), .ref (z 20), .int (-1), .int 0, .ref (z 23), .int (-1), .int (-1), .int (-1), .int 0, .int (-1), .int 0, .ref (z 30), .int 0, .ref (z 32), .int 0, .int 0, .ref (z 35), .ref (z 36), .ref (z 37), .ref (z 38), .long 0, .ref (z 40), .ref (z 41), .ref (z 42), .ref (z 43)])), (z 20, .inl (k 0, 206, .inl (fun _ => 0)))]) hE hP [112, 122] rfl)⟩ rfl rfl hl.1 rfl (lv_room (Nat.le_of_ble_eq_true rfl)) dL_law_826 ⟨(Nat.le_of_ble_eq_true rfl), (Nat.le_of_ble_eq_true rfl)⟩) (fun r_2 hr_2 => ?_)
  obtain rfl : r_2 = (-1) := hr_2
  refine lv_icmp_eq (tgt := 1253) hx hb dL_law_829 (by decide) (fun _ => ?_) (fun h9 => absurd rfl h9)
  refine lv_iinc (v := 6) (lv' := [(3, .int 6), (2, .ref q1), (1, .ref q0), (0, .ref b)]) hx hb dL_law_1253 hl (k := 0) rfl (by decide) (by decide) rfl (fun ls hl => ?_)
  refine lv_goto (tgt := 18) hx hb dL_law_1256 (by decide) ?_
  refine lv_iload_n hx hb dL_law_18 rfl (lv_at hl 0 rfl) ?_
  refine lv_aload_n hx hb dL_law_19 rfl (lv_at hl 3 rfl) ?_
  refine va_slen hx hb hX hbl hbA hS dL_law_20 ?_
  refine gz_ni (v := 6) (by decide) ?_
  refine lv_bipush (v := 6) hx hb dL_law_21 (by decide) ?_
  refine lv_isub hx hb dL_law_23 ?_
  refine gz_ni (v := 0) (by decide) ?_
  refine lv_icmp_gt (tgt := 1259) hx hb dL_law_24 (by decide) (fun _ => ?_) (fun h9 => absurd h9 (by decide))
  refine lv_iconst (v := 1) hx hb dL_law_1259 (by decide) ?_
  refine va_forget (fun q hq => by have h9 := hS.2.2 q hq; rw [hAe] at h9; exact h9) ?_
  refine W.widen (k := 600000) (n := 7302250) (Nat.le_of_ble_eq_true rfl) (Nat.le_of_ble_eq_true rfl) ?_
  exact lw_ret hx hb hr hlocks dL_law_1260
set_option maxHeartbeats 4000000 in
set_option maxRecDepth 100000 in
theorem law_bestGate {p : Program} {e : Env} {s : State} {m : MethodId} {below : List Frame} {meth : Method} {c : Code} (l : Launch) (G : va_G) (k : Nat → ClassId) (sa : Nat → Nat) {b : Nat} {xs : Nat → Int32} (C0 : lw_At p s m meth c b 6 xs) (hE : gE G k sa s) {A : Nat → Prop} (hAe : A = fun q => s.heap.size ≤ q) {H : Heap} {locs : List Loc} {ls : Array Slot} (q0 q1 : Nat) (u : Nat → Nat → Nat) (z : Nat → Nat) (hP : va_P G vwCl (ggW k q0 u ++ mmW k q1 z) H) (hD : va_D A (ggW k q0 u ++ mmW k q1 z)) (hS : va_S A s.heap H locs) (hl : lv_has ls 4 [(3, .int 0), (2, .ref q1), (1, .ref q0), (0, .ref b)]) : W p l e room_1 s m #[Value.ref b] below meth c H locs 285 12688 (lw_Z below #[Value.ref b] s) (F0 m 834 ls []) := by
  obtain ⟨hx, hb, hr, hml, hown, hts, hX, hbl, hlocks, hgv⟩ := id C0
  have hts := hts
  have hA : ∀ q : Nat, s.heap.size ≤ q → A q := by rw [hAe]; exact fun _ h => h
  have hbA : ¬ A b := by rw [hAe]; exact Nat.not_le.mpr hbl
  obtain ⟨y1, e1⟩ : ∃ y : Int32, y = xs (1 : Int32).toNatClampNeg := ⟨_, rfl⟩
  obtain ⟨y2, e2⟩ : ∃ y : Int32, y = xs (2 : Int32).toNatClampNeg := ⟨_, rfl⟩
  refine lv_aload_n hx hb dL_law_834 rfl (lv_at hl 2 rfl) ?_
  refine lv_aload_n hx hb dL_law_835 rfl (lv_at hl 3 rfl) ?_
  refine lv_iload_n hx hb dL_law_836 rfl (lv_at hl 0 rfl) ?_
  refine lv_iconst (v := 1) hx hb dL_law_837 (by decide) ?_
  refine lv_iadd hx hb dL_law_838 ?_
  refine gz_ni (v := 1) (by decide) ?_
  refine va_sld hx hb hX hbl hbA hS (gz_in (by decide)) dL_law_839 ?_
  refine gz_ni (v := y1) e1.symm ?_
  refine lv_aload_n hx hb dL_law_840 rfl (lv_at hl 3 rfl) ?_
  refine lv_iload_n hx hb dL_law_841 rfl (lv_at hl 0 rfl) ?_
  refine lv_iconst (v := 2) hx hb dL_law_842 (by decide) ?_
  refine lv_iadd hx hb dL_law_843 ?_
  refine gz_ni (v := 2) (by decide) ?_
  refine va_sld hx hb hX hbl hbA hS (gz_in (by decide)) dL_law_844 ?_
  refine gz_ni (v := y2) e2.symm ?_
  refine vp_callSi (W.runV (As := [.int y1, .int y2]) (rest := []) ⟨hx, hb, hml, hown, hts⟩ (c_X10_bestGate l G k sa q0 (u 0) (u 3) y1 y2) (cwV 2 hts g_L_106_c_X10_bestGate rfl rfl rfl (by decide +kernel) ⟨(Nat.le_of_ble_eq_true rfl), (Nat.le_of_ble_eq_true rfl)⟩) ⟨gR.bl, va_recv hE.K hP (ci := 10) (q0 := 0) rfl rfl, (gR.pre (wc := [(q0, .inr (10, [.ref ((u 0) 0), .ref ((u 0) 1), .ref ((u 0) 2), .ref ((u 0) 3), .ref ((u 0) 4), .int 0, .ref ((u 0) 5), .ref ((u 0) 6), .ref ((u 0) 7), .ref ((u 0) 8), .ref ((u 0) 9), .ref ((u 0) 10), .ref ((u 0) 11), .ref ((u 0) 12), .ref ((u 0) 13), .int 0])), ((u 0) 5, .inr (9, [.ref ((u 3) 0), .ref ((u 3) 1), .ref ((u 3) 2), .ref ((u 3) 3), .ref ((u 3) 4), .int 0, .int 0, .int (-1), .int 0])), ((u 3) 0, .inr (0, [.int 0, .int 0, .ref ((u 3) 5), .ref ((u 3) 6), .ref ((u 3) 7), .ref ((u 3) 8)]))]) hE hP [0, 20, 24] rfl)⟩ rfl rfl hl.1 rfl (lv_room (Nat.le_of_ble_eq_true rfl)) dL_law_845 ⟨(Nat.le_of_ble_eq_true rfl), (Nat.le_of_ble_eq_true rfl)⟩) (fun r_1 hr_1 => ?_)
  obtain rfl : r_1 = (-2) := hr_1
  refine lv_aload_n hx hb dL_law_848 rfl (lv_at hl 1 rfl) ?_
  refine lv_aload_n hx hb dL_law_849 rfl (lv_at hl 3 rfl) ?_
  refine lv_iload_n hx hb dL_law_850 rfl (lv_at hl 0 rfl) ?_
  refine lv_iconst (v := 1) hx hb dL_law_851 (by decide) ?_
  refine lv_iadd hx hb dL_law_852 ?_
  refine gz_ni (v := 1) (by decide) ?_
  refine va_sld hx hb hX hbl hbA hS (gz_in (by decide)) dL_law_853 ?_
  refine gz_ni (v := y1) e1.symm ?_
  refine lv_aload_n hx hb dL_law_854 rfl (lv_at hl 3 rfl) ?_
  refine lv_iload_n hx hb dL_law_855 rfl (lv_at hl 0 rfl) ?_
  refine lv_iconst (v := 2) hx hb dL_law_856 (by decide) ?_
  refine lv_iadd hx hb dL_law_857 ?_
  refine gz_ni (v := 2) (by decide) ?_
  refine va_sld hx hb hX hbl hbA hS (gz_in (by decide)) dL_law_858 ?_
  refine gz_ni (v := y2) e2.symm ?_
  refine vp_callSi (W.runV (As := [.int y1, .int y2]) (rest := [.int (-2)]) ⟨hx, hb, hml, hown, hts⟩ (m_bestGate l G k sa q1 z y1 y2) (cwV 2 hts g_L_109_m_bestGate rfl rfl rfl (by decide +kernel) ⟨(Nat.le_of_ble_eq_true rfl), (Nat.le_of_ble_eq_true rfl)⟩) ⟨gR.bl, va_recv hE.K hP (ci := 11) (q0 := 112) rfl rfl, (gR.pre (wc := [(q1, .inr (11, [.ref (z 0), .int 0, .int 0, .ref (z 3), .ref (z 4), .ref (z 5), .ref (z 6), .ref (z 7), .int 0, .int 0, .int 0, .int 0, .int 0, .int 0, .int 0, .ref (z 15), .int 0, .ref (z 17), .int 0, .ref (z 19), .ref (z 20), .int (-1), .int 0, .ref (z 23), .int (-1), .int (-1), .int (-1), .int 0, .int (-1), .int 0, .ref (z 30), .int 0, .ref (z 32), .int 0, .int 0, .ref (z 35), .ref (z 36), .ref (z 37), .ref (z 38), .long 0, .ref (z 40), .ref (z 41), .ref (z 42), .ref (z 43)])), (z 20, .inl (k 0, 206, .inl (fun _ => 0)))]) hE hP [112, 122] rfl)⟩ rfl rfl hl.1 rfl (lv_room (Nat.le_of_ble_eq_true rfl)) dL_law_859 ⟨(Nat.le_of_ble_eq_true rfl), (Nat.le_of_ble_eq_true rfl)⟩) (fun r_2 hr_2 => ?_)
  obtain rfl : r_2 = (-2) := hr_2
  refine lv_icmp_eq (tgt := 1253) hx hb dL_law_862 (by decide) (fun _ => ?_) (fun h9 => absurd rfl h9)
  refine lv_iinc (v := 6) (lv' := [(3, .int 6), (2, .ref q1), (1, .ref q0), (0, .ref b)]) hx hb dL_law_1253 hl (k := 0) rfl (by decide) (by decide) rfl (fun ls hl => ?_)
  refine lv_goto (tgt := 18) hx hb dL_law_1256 (by decide) ?_
  refine lv_iload_n hx hb dL_law_18 rfl (lv_at hl 0 rfl) ?_
  refine lv_aload_n hx hb dL_law_19 rfl (lv_at hl 3 rfl) ?_
  refine va_slen hx hb hX hbl hbA hS dL_law_20 ?_
  refine gz_ni (v := 6) (by decide) ?_
  refine lv_bipush (v := 6) hx hb dL_law_21 (by decide) ?_
  refine lv_isub hx hb dL_law_23 ?_
  refine gz_ni (v := 0) (by decide) ?_
  refine lv_icmp_gt (tgt := 1259) hx hb dL_law_24 (by decide) (fun _ => ?_) (fun h9 => absurd h9 (by decide))
  refine lv_iconst (v := 1) hx hb dL_law_1259 (by decide) ?_
  refine va_forget (fun q hq => by have h9 := hS.2.2 q hq; rw [hAe] at h9; exact h9) ?_
  refine W.widen (k := 600000) (n := 7302250) (Nat.le_of_ble_eq_true rfl) (Nat.le_of_ble_eq_true rfl) ?_
  exact lw_ret hx hb hr hlocks dL_law_1260
set_option maxHeartbeats 4000000 in
set_option maxRecDepth 100000 in
theorem law_bestWinds {p : Program} {e : Env} {s : State} {m : MethodId} {below : List Frame} {meth : Method} {c : Code} (l : Launch) (G : va_G) (k : Nat → ClassId) (sa : Nat → Nat) {b : Nat} {xs : Nat → Int32} (C0 : lw_At p s m meth c b 6 xs) (hE : gE G k sa s) {A : Nat → Prop} (hAe : A = fun q => s.heap.size ≤ q) {H : Heap} {locs : List Loc} {ls : Array Slot} (q0 q1 : Nat) (u : Nat → Nat → Nat) (z : Nat → Nat) (hP : va_P G vwCl (ggW k q0 u ++ mmW k q1 z) H) (hD : va_D A (ggW k q0 u ++ mmW k q1 z)) (hS : va_S A s.heap H locs) (hl : lv_has ls 4 [(3, .int 0), (2, .ref q1), (1, .ref q0), (0, .ref b)]) : W p l e room_1 s m #[Value.ref b] below meth c H locs 285 12688 (lw_Z below #[Value.ref b] s) (F0 m 867 ls []) := by
  obtain ⟨hx, hb, hr, hml, hown, hts, hX, hbl, hlocks, hgv⟩ := id C0
  have hts := hts
  have hA : ∀ q : Nat, s.heap.size ≤ q → A q := by rw [hAe]; exact fun _ h => h
  have hbA : ¬ A b := by rw [hAe]; exact Nat.not_le.mpr hbl
  obtain ⟨y1, e1⟩ : ∃ y : Int32, y = xs (1 : Int32).toNatClampNeg := ⟨_, rfl⟩
  obtain ⟨y2, e2⟩ : ∃ y : Int32, y = xs (2 : Int32).toNatClampNeg := ⟨_, rfl⟩
  refine lv_aload_n hx hb dL_law_867 rfl (lv_at hl 2 rfl) ?_
  refine lv_aload_n hx hb dL_law_868 rfl (lv_at hl 3 rfl) ?_
  refine lv_iload_n hx hb dL_law_869 rfl (lv_at hl 0 rfl) ?_
  refine lv_iconst (v := 1) hx hb dL_law_870 (by decide) ?_
  refine lv_iadd hx hb dL_law_871 ?_
  refine gz_ni (v := 1) (by decide) ?_
  refine va_sld hx hb hX hbl hbA hS (gz_in (by decide)) dL_law_872 ?_
  refine gz_ni (v := y1) e1.symm ?_
  refine lv_aload_n hx hb dL_law_873 rfl (lv_at hl 3 rfl) ?_
  refine lv_iload_n hx hb dL_law_874 rfl (lv_at hl 0 rfl) ?_
  refine lv_iconst (v := 2) hx hb dL_law_875 (by decide) ?_
  refine lv_iadd hx hb dL_law_876 ?_
  refine gz_ni (v := 2) (by decide) ?_
  refine va_sld hx hb hX hbl hbA hS (gz_in (by decide)) dL_law_877 ?_
  refine gz_ni (v := y2) e2.symm ?_
  refine vp_callSi (W.runV (As := [.int y1, .int y2]) (rest := []) ⟨hx, hb, hml, hown, hts⟩ (c_X10_bestWinds l G k sa q0 (u 0) (u 3) y1 y2) (cwV 2 hts g_L_110_c_X10_bestWinds rfl rfl rfl (by decide +kernel) ⟨(Nat.le_of_ble_eq_true rfl), (Nat.le_of_ble_eq_true rfl)⟩) ⟨gR.bl, va_recv hE.K hP (ci := 10) (q0 := 0) rfl rfl, (gR.pre (wc := [(q0, .inr (10, [.ref ((u 0) 0), .ref ((u 0) 1), .ref ((u 0) 2), .ref ((u 0) 3), .ref ((u 0) 4), .int 0, .ref ((u 0) 5), .ref ((u 0) 6), .ref ((u 0) 7), .ref ((u 0) 8), .ref ((u 0) 9), .ref ((u 0) 10), .ref ((u 0) 11), .ref ((u 0) 12), .ref ((u 0) 13), .int 0])), ((u 0) 5, .inr (9, [.ref ((u 3) 0), .ref ((u 3) 1), .ref ((u 3) 2), .ref ((u 3) 3), .ref ((u 3) 4), .int 0, .int 0, .int (-1), .int 0])), ((u 3) 0, .inr (0, [.int 0, .int 0, .ref ((u 3) 5), .ref ((u 3) 6), .ref ((u 3) 7), .ref ((u 3) 8)]))]) hE hP [0, 20, 24] rfl)⟩ rfl rfl hl.1 rfl (lv_room (Nat.le_of_ble_eq_true rfl)) dL_law_878 ⟨(Nat.le_of_ble_eq_true rfl), (Nat.le_of_ble_eq_true rfl)⟩) (fun r_1 hr_1 => ?_)
  obtain rfl : r_1 = (-2) := hr_1
  refine lv_aload_n hx hb dL_law_881 rfl (lv_at hl 1 rfl) ?_
  refine lv_aload_n hx hb dL_law_882 rfl (lv_at hl 3 rfl) ?_
  refine lv_iload_n hx hb dL_law_883 rfl (lv_at hl 0 rfl) ?_
  refine lv_iconst (v := 1) hx hb dL_law_884 (by decide) ?_
  refine lv_iadd hx hb dL_law_885 ?_
  refine gz_ni (v := 1) (by decide) ?_
  refine va_sld hx hb hX hbl hbA hS (gz_in (by decide)) dL_law_886 ?_
  refine gz_ni (v := y1) e1.symm ?_
  refine lv_aload_n hx hb dL_law_887 rfl (lv_at hl 3 rfl) ?_
  refine lv_iload_n hx hb dL_law_888 rfl (lv_at hl 0 rfl) ?_
  refine lv_iconst (v := 2) hx hb dL_law_889 (by decide) ?_
  refine lv_iadd hx hb dL_law_890 ?_
  refine gz_ni (v := 2) (by decide) ?_
  refine va_sld hx hb hX hbl hbA hS (gz_in (by decide)) dL_law_891 ?_
  refine gz_ni (v := y2) e2.symm ?_
  refine vp_callSi (W.runV (As := [.int y1, .int y2]) (rest := [.int (-2)]) ⟨hx, hb, hml, hown, hts⟩ (m_bestWinds l G k sa q1 z y1 y2) (cwV 2 hts g_L_113_m_bestWinds rfl rfl rfl (by decide +kernel) ⟨(Nat.le_of_ble_eq_true rfl), (Nat.le_of_ble_eq_true rfl)⟩) ⟨gR.bl, va_recv hE.K hP (ci := 11) (q0 := 112) rfl rfl, (gR.pre (wc := [(q1, .inr (11, [.ref (z 0), .int 0, .int 0, .ref (z 3), .ref (z 4), .ref (z 5), .ref (z 6), .ref (z 7), .int 0, .int 0, .int 0, .int 0, .int 0, .int 0, .int 0, .ref (z 15), .int 0, .ref (z 17), .int 0, .ref (z 19), .ref (z 20), .int (-1), .int 0, .ref (z 23), .int (-1), .int (-1), .int (-1), .int 0, .int (-1), .int 0, .ref (z 30), .int 0, .ref (z 32), .int 0, .int 0, .ref (z 35), .ref (z 36), .ref (z 37), .ref (z 38), .long 0, .ref (z 40), .ref (z 41), .ref (z 42), .ref (z 43)])), (z 20, .inl (k 0, 206, .inl (fun _ => 0)))]) hE hP [112, 122] rfl)⟩ rfl rfl hl.1 rfl (lv_room (Nat.le_of_ble_eq_true rfl)) dL_law_892 ⟨(Nat.le_of_ble_eq_true rfl), (Nat.le_of_ble_eq_true rfl)⟩) (fun r_2 hr_2 => ?_)
  obtain rfl : r_2 = (-2) := hr_2
  refine lv_icmp_eq (tgt := 1253) hx hb dL_law_895 (by decide) (fun _ => ?_) (fun h9 => absurd rfl h9)
  refine lv_iinc (v := 6) (lv' := [(3, .int 6), (2, .ref q1), (1, .ref q0), (0, .ref b)]) hx hb dL_law_1253 hl (k := 0) rfl (by decide) (by decide) rfl (fun ls hl => ?_)
  refine lv_goto (tgt := 18) hx hb dL_law_1256 (by decide) ?_
  refine lv_iload_n hx hb dL_law_18 rfl (lv_at hl 0 rfl) ?_
  refine lv_aload_n hx hb dL_law_19 rfl (lv_at hl 3 rfl) ?_
  refine va_slen hx hb hX hbl hbA hS dL_law_20 ?_
  refine gz_ni (v := 6) (by decide) ?_
  refine lv_bipush (v := 6) hx hb dL_law_21 (by decide) ?_
  refine lv_isub hx hb dL_law_23 ?_
  refine gz_ni (v := 0) (by decide) ?_
  refine lv_icmp_gt (tgt := 1259) hx hb dL_law_24 (by decide) (fun _ => ?_) (fun h9 => absurd h9 (by decide))
  refine lv_iconst (v := 1) hx hb dL_law_1259 (by decide) ?_
  refine va_forget (fun q hq => by have h9 := hS.2.2 q hq; rw [hAe] at h9; exact h9) ?_
  refine W.widen (k := 600000) (n := 7302250) (Nat.le_of_ble_eq_true rfl) (Nat.le_of_ble_eq_true rfl) ?_
  exact lw_ret hx hb hr hlocks dL_law_1260
set_option maxHeartbeats 4000000 in
set_option maxRecDepth 100000 in
theorem law_rests {p : Program} {e : Env} {s : State} {m : MethodId} {below : List Frame} {meth : Method} {c : Code} (l : Launch) (G : va_G) (k : Nat → ClassId) (sa : Nat → Nat) {b : Nat} {xs : Nat → Int32} (C0 : lw_At p s m meth c b 6 xs) (hE : gE G k sa s) {A : Nat → Prop} (hAe : A = fun q => s.heap.size ≤ q) {H : Heap} {locs : List Loc} {ls : Array Slot} (q0 q1 : Nat) (u : Nat → Nat → Nat) (z : Nat → Nat) (hP : va_P G vwCl (ggW k q0 u ++ mmW k q1 z) H) (hD : va_D A (ggW k q0 u ++ mmW k q1 z)) (hS : va_S A s.heap H locs) (hl : lv_has ls 4 [(3, .int 0), (2, .ref q1), (1, .ref q0), (0, .ref b)]) : W p l e room_1 s m #[Value.ref b] below meth c H locs 285 12688 (lw_Z below #[Value.ref b] s) (F0 m 900 ls []) := by
  obtain ⟨hx, hb, hr, hml, hown, hts, hX, hbl, hlocks, hgv⟩ := id C0
  have hts := hts
  have hA : ∀ q : Nat, s.heap.size ≤ q → A q := by rw [hAe]; exact fun _ h => h
  have hbA : ¬ A b := by rw [hAe]; exact Nat.not_le.mpr hbl
  obtain ⟨y1, e1⟩ : ∃ y : Int32, y = xs (1 : Int32).toNatClampNeg := ⟨_, rfl⟩
  obtain ⟨y2, e2⟩ : ∃ y : Int32, y = xs (2 : Int32).toNatClampNeg := ⟨_, rfl⟩
  obtain ⟨y3, e3⟩ : ∃ y : Int32, y = xs (3 : Int32).toNatClampNeg := ⟨_, rfl⟩
  obtain ⟨y4, e4⟩ : ∃ y : Int32, y = xs (4 : Int32).toNatClampNeg := ⟨_, rfl⟩
  refine lv_aload_n hx hb dL_law_900 rfl (lv_at hl 2 rfl) ?_
  refine lv_aload_n hx hb dL_law_901 rfl (lv_at hl 3 rfl) ?_
  refine lv_iload_n hx hb dL_law_902 rfl (lv_at hl 0 rfl) ?_
  refine lv_iconst (v := 1) hx hb dL_law_903 (by decide) ?_
  refine lv_iadd hx hb dL_law_904 ?_
  refine gz_ni (v := 1) (by decide) ?_
  refine va_sld hx hb hX hbl hbA hS (gz_in (by decide)) dL_law_905 ?_
  refine gz_ni (v := y1) e1.symm ?_
  refine lv_aload_n hx hb dL_law_906 rfl (lv_at hl 3 rfl) ?_
  refine lv_iload_n hx hb dL_law_907 rfl (lv_at hl 0 rfl) ?_
  refine lv_iconst (v := 2) hx hb dL_law_908 (by decide) ?_
  refine lv_iadd hx hb dL_law_909 ?_
  refine gz_ni (v := 2) (by decide) ?_
  refine va_sld hx hb hX hbl hbA hS (gz_in (by decide)) dL_law_910 ?_
  refine gz_ni (v := y2) e2.symm ?_
  refine lv_aload_n hx hb dL_law_911 rfl (lv_at hl 3 rfl) ?_
  refine lv_iload_n hx hb dL_law_912 rfl (lv_at hl 0 rfl) ?_
  refine lv_iconst (v := 3) hx hb dL_law_913 (by decide) ?_
  refine lv_iadd hx hb dL_law_914 ?_
  refine gz_ni (v := 3) (by decide) ?_
  refine va_sld hx hb hX hbl hbA hS (gz_in (by decide)) dL_law_915 ?_
  refine gz_ni (v := y3) e3.symm ?_
  refine lv_aload_n hx hb dL_law_916 rfl (lv_at hl 3 rfl) ?_
  refine lv_iload_n hx hb dL_law_917 rfl (lv_at hl 0 rfl) ?_
  refine lv_iconst (v := 4) hx hb dL_law_918 (by decide) ?_
  refine lv_iadd hx hb dL_law_919 ?_
  refine gz_ni (v := 4) (by decide) ?_
  refine va_sld hx hb hX hbl hbA hS (gz_in (by decide)) dL_law_920 ?_
  refine gz_ni (v := y4) e4.symm ?_
  refine vp_callSi (W.runV (As := [.int y1, .int y2, .int y3, .int y4]) (rest := []) ⟨hx, hb, hml, hown, hts⟩ (c_X10_rests l G k sa q0 (u 0) (u 3) y1 y2 y3 y4) (cwV 4 hts g_L_114_c_X10_rests rfl rfl rfl (by decide +kernel) ⟨(Nat.le_of_ble_eq_true rfl), (Nat.le_of_ble_eq_true rfl)⟩) ⟨gR.bl, va_recv hE.K hP (ci := 10) (q0 := 0) rfl rfl, (gR.pre (wc := [(q0, .inr (10, [.ref ((u 0) 0), .ref ((u 0) 1), .ref ((u 0) 2), .ref ((u 0) 3), .ref ((u 0) 4), .int 0, .ref ((u 0) 5), .ref ((u 0) 6), .ref ((u 0) 7), .ref ((u 0) 8), .ref ((u 0) 9), .ref ((u 0) 10), .ref ((u 0) 11), .ref ((u 0) 12), .ref ((u 0) 13), .int 0])), ((u 0) 5, .inr (9, [.ref ((u 3) 0), .ref ((u 3) 1), .ref ((u 3) 2), .ref ((u 3) 3), .ref ((u 3) 4), .int 0, .int 0, .int (-1), .int 0])), ((u 3) 1, .inr (2, [.int 0, .int 0, .long 0, .ref ((u 3) 13), .ref ((u 3) 14), .ref ((u 3) 15), .ref ((u 3) 16)]))]) hE hP [0, 20, 33] rfl)⟩ rfl rfl hl.1 rfl (lv_room (Nat.le_of_ble_eq_true rfl)) dL_law_921 ⟨(Nat.le_of_ble_eq_true rfl), (Nat.le_of_ble_eq_true rfl)⟩) (fun r_1 hr_1 => ?_)
  obtain rfl : r_1 = (-1) := hr_1
  refine lv_aload_n hx hb dL_law_924 rfl (lv_at hl 1 rfl) ?_
  refine lv_aload_n hx hb dL_law_925 rfl (lv_at hl 3 rfl) ?_
  refine lv_iload_n hx hb dL_law_926 rfl (lv_at hl 0 rfl) ?_
  refine lv_iconst (v := 1) hx hb dL_law_927 (by decide) ?_
  refine lv_iadd hx hb dL_law_928 ?_
  refine gz_ni (v := 1) (by decide) ?_
  refine va_sld hx hb hX hbl hbA hS (gz_in (by decide)) dL_law_929 ?_
  refine gz_ni (v := y1) e1.symm ?_
  refine lv_aload_n hx hb dL_law_930 rfl (lv_at hl 3 rfl) ?_
  refine lv_iload_n hx hb dL_law_931 rfl (lv_at hl 0 rfl) ?_
  refine lv_iconst (v := 2) hx hb dL_law_932 (by decide) ?_
  refine lv_iadd hx hb dL_law_933 ?_
  refine gz_ni (v := 2) (by decide) ?_
  refine va_sld hx hb hX hbl hbA hS (gz_in (by decide)) dL_law_934 ?_
  refine gz_ni (v := y2) e2.symm ?_
  refine lv_aload_n hx hb dL_law_935 rfl (lv_at hl 3 rfl) ?_
  refine lv_iload_n hx hb dL_law_936 rfl (lv_at hl 0 rfl) ?_
  refine lv_iconst (v := 3) hx hb dL_law_937 (by decide) ?_
  refine lv_iadd hx hb dL_law_938 ?_
  refine gz_ni (v := 3) (by decide) ?_
  refine va_sld hx hb hX hbl hbA hS (gz_in (by decide)) dL_law_939 ?_
  refine gz_ni (v := y3) e3.symm ?_
  refine lv_aload_n hx hb dL_law_940 rfl (lv_at hl 3 rfl) ?_
  refine lv_iload_n hx hb dL_law_941 rfl (lv_at hl 0 rfl) ?_
  refine lv_iconst (v := 4) hx hb dL_law_942 (by decide) ?_
  refine lv_iadd hx hb dL_law_943 ?_
  refine gz_ni (v := 4) (by decide) ?_
  refine va_sld hx hb hX hbl hbA hS (gz_in (by decide)) dL_law_944 ?_
  refine gz_ni (v := y4) e4.symm ?_
  refine vp_callSi (W.runV (As := [.int y1, .int y2, .int y3, .int y4]) (rest := [.int (-1)]) ⟨hx, hb, hml, hown, hts⟩ (m_rests l G k sa q1 z y1 y2 y3 y4) (cwV 4 hts g_L_118_m_rests rfl rfl rfl (by decide +kernel) ⟨(Nat.le_of_ble_eq_true rfl), (Nat.le_of_ble_eq_true rfl)⟩) ⟨gR.bl, va_recv hE.K hP (ci := 11) (q0 := 112) rfl rfl, (gR.pre (wc := [(q1, .inr (11, [.ref (z 0), .int 0, .int 0, .ref (z 3), .ref (z 4), .ref (z 5), .ref (z 6), .ref (z 7), .int 0, .int 0, .int 0, .int 0, .int 0, .int 0, .int 0, .ref (z 15), .int 0, .ref (z 17), .int 0, .ref (z 19), .ref (z 20), .int (-1), .int 0, .ref (z 23), .int (-1), .int (-1), .int (-1), .int 0, .int (-1), .int 0, .ref (z 30), .int 0, .ref (z 32), .int 0, .int 0, .ref (z 35), .ref (z 36), .ref (z 37), .ref (z 38), .long 0, .ref (z 40), .ref (z 41), .ref (z 42), .ref (z 43)])), (z 20, .inl (k 0, 206, .inl (fun _ => 0)))]) hE hP [112, 122] rfl)⟩ rfl rfl hl.1 rfl (lv_room (Nat.le_of_ble_eq_true rfl)) dL_law_945 ⟨(Nat.le_of_ble_eq_true rfl), (Nat.le_of_ble_eq_true rfl)⟩) (fun r_2 hr_2 => ?_)
  obtain rfl : r_2 = (-1) := hr_2
  refine lv_icmp_eq (tgt := 1253) hx hb dL_law_948 (by decide) (fun _ => ?_) (fun h9 => absurd rfl h9)
  refine lv_iinc (v := 6) (lv' := [(3, .int 6), (2, .ref q1), (1, .ref q0), (0, .ref b)]) hx hb dL_law_1253 hl (k := 0) rfl (by decide) (by decide) rfl (fun ls hl => ?_)
  refine lv_goto (tgt := 18) hx hb dL_law_1256 (by decide) ?_
  refine lv_iload_n hx hb dL_law_18 rfl (lv_at hl 0 rfl) ?_
  refine lv_aload_n hx hb dL_law_19 rfl (lv_at hl 3 rfl) ?_
  refine va_slen hx hb hX hbl hbA hS dL_law_20 ?_
  refine gz_ni (v := 6) (by decide) ?_
  refine lv_bipush (v := 6) hx hb dL_law_21 (by decide) ?_
  refine lv_isub hx hb dL_law_23 ?_
  refine gz_ni (v := 0) (by decide) ?_
  refine lv_icmp_gt (tgt := 1259) hx hb dL_law_24 (by decide) (fun _ => ?_) (fun h9 => absurd h9 (by decide))
  refine lv_iconst (v := 1) hx hb dL_law_1259 (by decide) ?_
  refine va_forget (fun q hq => by have h9 := hS.2.2 q hq; rw [hAe] at h9; exact h9) ?_
  refine W.widen (k := 600000) (n := 7302250) (Nat.le_of_ble_eq_true rfl) (Nat.le_of_ble_eq_true rfl) ?_
  exact lw_ret hx hb hr hlocks dL_law_1260
set_option maxHeartbeats 4000000 in
set_option maxRecDepth 100000 in
theorem law_ring {p : Program} {e : Env} {s : State} {m : MethodId} {below : List Frame} {meth : Method} {c : Code} (l : Launch) (G : va_G) (k : Nat → ClassId) (sa : Nat → Nat) {b : Nat} {xs : Nat → Int32} (C0 : lw_At p s m meth c b 6 xs) (hE : gE G k sa s) {A : Nat → Prop} (hAe : A = fun q => s.heap.size ≤ q) {H : Heap} {locs : List Loc} {ls : Array Slot} (q0 q1 : Nat) (u : Nat → Nat → Nat) (z : Nat → Nat) (hP : va_P G vwCl (ggW k q0 u ++ mmW k q1 z) H) (hD : va_D A (ggW k q0 u ++ mmW k q1 z)) (hS : va_S A s.heap H locs) (hl : lv_has ls 4 [(3, .int 0), (2, .ref q1), (1, .ref q0), (0, .ref b)]) : W p l e room_1 s m #[Value.ref b] below meth c H locs 285 12688 (lw_Z below #[Value.ref b] s) (F0 m 953 ls []) := by
  obtain ⟨hx, hb, hr, hml, hown, hts, hX, hbl, hlocks, hgv⟩ := id C0
  have hts := hts
  have hA : ∀ q : Nat, s.heap.size ≤ q → A q := by rw [hAe]; exact fun _ h => h
  have hbA : ¬ A b := by rw [hAe]; exact Nat.not_le.mpr hbl
  obtain ⟨y1, e1⟩ : ∃ y : Int32, y = xs (1 : Int32).toNatClampNeg := ⟨_, rfl⟩
  refine lv_aload_n hx hb dL_law_953 rfl (lv_at hl 2 rfl) ?_
  refine lv_aload_n hx hb dL_law_954 rfl (lv_at hl 3 rfl) ?_
  refine lv_iload_n hx hb dL_law_955 rfl (lv_at hl 0 rfl) ?_
  refine lv_iconst (v := 1) hx hb dL_law_956 (by decide) ?_
  refine lv_iadd hx hb dL_law_957 ?_
  refine gz_ni (v := 1) (by decide) ?_
  refine va_sld hx hb hX hbl hbA hS (gz_in (by decide)) dL_law_958 ?_
  refine gz_ni (v := y1) e1.symm ?_
  refine vp_callSi (W.runV (As := [.int y1]) (rest := []) ⟨hx, hb, hml, hown, hts⟩ (c_X10_ring l G k sa q0 (u 0) (u 3) y1) (cwV 1 hts g_L_119_c_X10_ring rfl rfl rfl (by decide +kernel) ⟨(Nat.le_of_ble_eq_true rfl), (Nat.le_of_ble_eq_true rfl)⟩) ⟨gR.bl, va_recv hE.K hP (ci := 10) (q0 := 0) rfl rfl, (gR.pre (wc := [(q0, .inr (10, [.ref ((u 0) 0), .ref ((u 0) 1), .ref ((u 0) 2), .ref ((u 0) 3), .ref ((u 0) 4), .int 0, .ref ((u 0) 5), .ref ((u 0) 6), .ref ((u 0) 7), .ref ((u 0) 8), .ref ((u 0) 9), .ref ((u 0) 10), .ref ((u 0) 11), .ref ((u 0) 12), .ref ((u 0) 13), .int 0])), ((u 0) 5, .inr (9, [.ref ((u 3) 0), .ref ((u 3) 1), .ref ((u 3) 2), .ref ((u 3) 3), .ref ((u 3) 4), .int 0, .int 0, .int (-1), .int 0])), ((u 3) 0, .inr (0, [.int 0, .int 0, .ref ((u 3) 5), .ref ((u 3) 6), .ref ((u 3) 7), .ref ((u 3) 8)]))]) hE hP [0, 20, 24] rfl)⟩ rfl rfl hl.1 rfl (lv_room (Nat.le_of_ble_eq_true rfl)) dL_law_959 ⟨(Nat.le_of_ble_eq_true rfl), (Nat.le_of_ble_eq_true rfl)⟩) (fun r_1 hr_1 => ?_)
  obtain rfl : r_1 = (-1) := hr_1
  refine lv_aload_n hx hb dL_law_962 rfl (lv_at hl 1 rfl) ?_
  refine lv_aload_n hx hb dL_law_963 rfl (lv_at hl 3 rfl) ?_
  refine lv_iload_n hx hb dL_law_964 rfl (lv_at hl 0 rfl) ?_
  refine lv_iconst (v := 1) hx hb dL_law_965 (by decide) ?_
  refine lv_iadd hx hb dL_law_966 ?_
  refine gz_ni (v := 1) (by decide) ?_
  refine va_sld hx hb hX hbl hbA hS (gz_in (by decide)) dL_law_967 ?_
  refine gz_ni (v := y1) e1.symm ?_
  refine vp_callSi (W.runV (As := [.int y1]) (rest := [.int (-1)]) ⟨hx, hb, hml, hown, hts⟩ (m_ring l G k sa q1 z y1) (cwV 1 hts g_L_122_m_ring rfl rfl rfl (by decide +kernel) ⟨(Nat.le_of_ble_eq_true rfl), (Nat.le_of_ble_eq_true rfl)⟩) ⟨gR.bl, va_recv hE.K hP (ci := 11) (q0 := 112) rfl rfl, (gR.pre (wc := [(q1, .inr (11, [.ref (z 0), .int 0, .int 0, .ref (z 3), .ref (z 4), .ref (z 5), .ref (z 6), .ref (z 7), .int 0, .int 0, .int 0, .int 0, .int 0, .int 0, .int 0, .ref (z 15), .int 0, .ref (z 17), .int 0, .ref (z 19), .ref (z 20), .int (-1), .int 0, .ref (z 23), .int (-1), .int (-1), .int (-1), .int 0, .int (-1), .int 0, .ref (z 30), .int 0, .ref (z 32), .int 0, .int 0, .ref (z 35), .ref (z 36), .ref (z 37), .ref (z 38), .long 0, .ref (z 40), .ref (z 41), .ref (z 42), .ref (z 43)])), (z 20, .inl (k 0, 206, .inl (fun _ => 0)))]) hE hP [112, 122] rfl)⟩ rfl rfl hl.1 rfl (lv_room (Nat.le_of_ble_eq_true rfl)) dL_law_968 ⟨(Nat.le_of_ble_eq_true rfl), (Nat.le_of_ble_eq_true rfl)⟩) (fun r_2 hr_2 => ?_)
  obtain rfl : r_2 = (-1) := hr_2
  refine lv_icmp_eq (tgt := 1253) hx hb dL_law_971 (by decide) (fun _ => ?_) (fun h9 => absurd rfl h9)
  refine lv_iinc (v := 6) (lv' := [(3, .int 6), (2, .ref q1), (1, .ref q0), (0, .ref b)]) hx hb dL_law_1253 hl (k := 0) rfl (by decide) (by decide) rfl (fun ls hl => ?_)
  refine lv_goto (tgt := 18) hx hb dL_law_1256 (by decide) ?_
  refine lv_iload_n hx hb dL_law_18 rfl (lv_at hl 0 rfl) ?_
  refine lv_aload_n hx hb dL_law_19 rfl (lv_at hl 3 rfl) ?_
  refine va_slen hx hb hX hbl hbA hS dL_law_20 ?_
  refine gz_ni (v := 6) (by decide) ?_
  refine lv_bipush (v := 6) hx hb dL_law_21 (by decide) ?_
  refine lv_isub hx hb dL_law_23 ?_
  refine gz_ni (v := 0) (by decide) ?_
  refine lv_icmp_gt (tgt := 1259) hx hb dL_law_24 (by decide) (fun _ => ?_) (fun h9 => absurd h9 (by decide))
  refine lv_iconst (v := 1) hx hb dL_law_1259 (by decide) ?_
  refine va_forget (fun q hq => by have h9 := hS.2.2 q hq; rw [hAe] at h9; exact h9) ?_
  refine W.widen (k := 600000) (n := 7302250) (Nat.le_of_ble_eq_true rfl) (Nat.le_of_ble_eq_true rfl) ?_
  exact lw_ret hx hb hr hlocks dL_law_1260
set_option maxHeartbeats 4000000 in
set_option maxRecDepth 100000 in
theorem law_pence {p : Program} {e : Env} {s : State} {m : MethodId} {below : List Frame} {meth : Method} {c : Code} (l : Launch) (G : va_G) (k : Nat → ClassId) (sa : Nat → Nat) {b : Nat} {xs : Nat → Int32} (C0 : lw_At p s m meth c b 6 xs) (hE : gE G k sa s) {A : Nat → Prop} (hAe : A = fun q => s.heap.size ≤ q) {H : Heap} {locs : List Loc} {ls : Array Slot} (q0 q1 : Nat) (u : Nat → Nat → Nat) (z : Nat → Nat) (hP : va_P G vwCl (ggW k q0 u ++ mmW k q1 z) H) (hD : va_D A (ggW k q0 u ++ mmW k q1 z)) (hS : va_S A s.heap H locs) (hl : lv_has ls 4 [(3, .int 0), (2, .ref q1), (1, .ref q0), (0, .ref b)]) : W p l e room_1 s m #[Value.ref b] below meth c H locs 285 12688 (lw_Z below #[Value.ref b] s) (F0 m 976 ls []) := by
  obtain ⟨hx, hb, hr, hml, hown, hts, hX, hbl, hlocks, hgv⟩ := id C0
  have hts := hts
  have hA : ∀ q : Nat, s.heap.size ≤ q → A q := by rw [hAe]; exact fun _ h => h
  have hbA : ¬ A b := by rw [hAe]; exact Nat.not_le.mpr hbl
  obtain ⟨y1, e1⟩ : ∃ y : Int32, y = xs (1 : Int32).toNatClampNeg := ⟨_, rfl⟩
  obtain ⟨y2, e2⟩ : ∃ y : Int32, y = xs (2 : Int32).toNatClampNeg := ⟨_, rfl⟩
  refine lv_aload_n hx hb dL_law_976 rfl (lv_at hl 2 rfl) ?_
  refine lv_aload_n hx hb dL_law_977 rfl (lv_at hl 3 rfl) ?_
  refine lv_iload_n hx hb dL_law_978 rfl (lv_at hl 0 rfl) ?_
  refine lv_iconst (v := 1) hx hb dL_law_979 (by decide) ?_
  refine lv_iadd hx hb dL_law_980 ?_
  refine gz_ni (v := 1) (by decide) ?_
  refine va_sld hx hb hX hbl hbA hS (gz_in (by decide)) dL_law_981 ?_
  refine gz_ni (v := y1) e1.symm ?_
  refine lv_aload_n hx hb dL_law_982 rfl (lv_at hl 3 rfl) ?_
  refine lv_iload_n hx hb dL_law_983 rfl (lv_at hl 0 rfl) ?_
  refine lv_iconst (v := 2) hx hb dL_law_984 (by decide) ?_
  refine lv_iadd hx hb dL_law_985 ?_
  refine gz_ni (v := 2) (by decide) ?_
  refine va_sld hx hb hX hbl hbA hS (gz_in (by decide)) dL_law_986 ?_
  refine gz_ni (v := y2) e2.symm ?_
  refine vp_callSi (W.runV (As := [.int y1, .int y2]) (rest := []) ⟨hx, hb, hml, hown, hts⟩ (c_X10_pence l G k sa q0 (u 0) (u 3) y1 y2) (cwV 2 hts g_L_123_c_X10_pence rfl rfl rfl (by decide +kernel) ⟨(Nat.le_of_ble_eq_true rfl), (Nat.le_of_ble_eq_true rfl)⟩) ⟨gR.bl, va_recv hE.K hP (ci := 10) (q0 := 0) rfl rfl, (gR.pre (wc := [(q0, .inr (10, [.ref ((u 0) 0), .ref ((u 0) 1), .ref ((u 0) 2), .ref ((u 0) 3), .ref ((u 0) 4), .int 0, .ref ((u 0) 5), .ref ((u 0) 6), .ref ((u 0) 7), .ref ((u 0) 8), .ref ((u 0) 9), .ref ((u 0) 10), .ref ((u 0) 11), .ref ((u 0) 12), .ref ((u 0) 13), .int 0])), ((u 0) 5, .inr (9, [.ref ((u 3) 0), .ref ((u 3) 1), .ref ((u 3) 2), .ref ((u 3) 3), .ref ((u 3) 4), .int 0, .int 0, .int (-1), .int 0])), ((u 3) 1, .inr (2, [.int 0, .int 0, .long 0, .ref ((u 3) 13), .ref ((u 3) 14), .ref ((u 3) 15), .ref ((u 3) 16)]))]) hE hP [0, 20, 33] rfl)⟩ rfl rfl hl.1 rfl (lv_room (Nat.le_of_ble_eq_true rfl)) dL_law_987 ⟨(Nat.le_of_ble_eq_true rfl), (Nat.le_of_ble_eq_true rfl)⟩) (fun r_1 hr_1 => ?_)
  obtain rfl : r_1 = (-1) := hr_1
  refine lv_aload_n hx hb dL_law_990 rfl (lv_at hl 1 rfl) ?_
  refine lv_aload_n hx hb dL_law_991 rfl (lv_at hl 3 rfl) ?_
  refine lv_iload_n hx hb dL_law_992 rfl (lv_at hl 0 rfl) ?_
  refine lv_iconst (v := 1) hx hb dL_law_993 (by decide) ?_
  refine lv_iadd hx hb dL_law_994 ?_
  refine gz_ni (v := 1) (by decide) ?_
  refine va_sld hx hb hX hbl hbA hS (gz_in (by decide)) dL_law_995 ?_
  refine gz_ni (v := y1) e1.symm ?_
  refine lv_aload_n hx hb dL_law_996 rfl (lv_at hl 3 rfl) ?_
  refine lv_iload_n hx hb dL_law_997 rfl (lv_at hl 0 rfl) ?_
  refine lv_iconst (v := 2) hx hb dL_law_998 (by decide) ?_
  refine lv_iadd hx hb dL_law_999 ?_
  refine gz_ni (v := 2) (by decide) ?_
  refine va_sld hx hb hX hbl hbA hS (gz_in (by decide)) dL_law_1000 ?_
  refine gz_ni (v := y2) e2.symm ?_
  refine vp_callSi (W.runV (As := [.int y1, .int y2]) (rest := [.int (-1)]) ⟨hx, hb, hml, hown, hts⟩ (m_pence l G k sa q1 z y1 y2) (cwV 2 hts g_L_126_m_pence rfl rfl rfl (by decide +kernel) ⟨(Nat.le_of_ble_eq_true rfl), (Nat.le_of_ble_eq_true rfl)⟩) ⟨gR.bl, va_recv hE.K hP (ci := 11) (q0 := 112) rfl rfl, (gR.pre (wc := [(q1, .inr (11, [.ref (z 0), .int 0, .int 0, .ref (z 3), .ref (z 4), .ref (z 5), .ref (z 6), .ref (z 7), .int 0, .int 0, .int 0, .int 0, .int 0, .int 0, .int 0, .ref (z 15), .int 0, .ref (z 17), .int 0, .ref (z 19), .ref (z 20), .int (-1), .int 0, .ref (z 23), .int (-1), .int (-1), .int (-1), .int 0, .int (-1), .int 0, .ref (z 30), .int 0, .ref (z 32), .int 0, .int 0, .ref (z 35), .ref (z 36), .ref (z 37), .ref (z 38), .long 0, .ref (z 40), .ref (z 41), .ref (z 42), .ref (z 43)])), (z 20, .inl (k 0, 206, .inl (fun _ => 0)))]) hE hP [112, 122] rfl)⟩ rfl rfl hl.1 rfl (lv_room (Nat.le_of_ble_eq_true rfl)) dL_law_1001 ⟨(Nat.le_of_ble_eq_true rfl), (Nat.le_of_ble_eq_true rfl)⟩) (fun r_2 hr_2 => ?_)
  obtain rfl : r_2 = (-1) := hr_2
  refine lv_icmp_eq (tgt := 1253) hx hb dL_law_1004 (by decide) (fun _ => ?_) (fun h9 => absurd rfl h9)
  refine lv_iinc (v := 6) (lv' := [(3, .int 6), (2, .ref q1), (1, .ref q0), (0, .ref b)]) hx hb dL_law_1253 hl (k := 0) rfl (by decide) (by decide) rfl (fun ls hl => ?_)
  refine lv_goto (tgt := 18) hx hb dL_law_1256 (by decide) ?_
  refine lv_iload_n hx hb dL_law_18 rfl (lv_at hl 0 rfl) ?_
  refine lv_aload_n hx hb dL_law_19 rfl (lv_at hl 3 rfl) ?_
  refine va_slen hx hb hX hbl hbA hS dL_law_20 ?_
  refine gz_ni (v := 6) (by decide) ?_
  refine lv_bipush (v := 6) hx hb dL_law_21 (by decide) ?_
  refine lv_isub hx hb dL_law_23 ?_
  refine gz_ni (v := 0) (by decide) ?_
  refine lv_icmp_gt (tgt := 1259) hx hb dL_law_24 (by decide) (fun _ => ?_) (fun h9 => absurd h9 (by decide))
  refine lv_iconst (v := 1) hx hb dL_law_1259 (by decide) ?_
  refine va_forget (fun q hq => by have h9 := hS.2.2 q hq; rw [hAe] at h9; exact h9) ?_
  refine W.widen (k := 600000) (n := 7302250) (Nat.le_of_ble_eq_true rfl) (Nat.le_of_ble_eq_true rfl) ?_
  exact lw_ret hx hb hr hlocks dL_law_1260
set_option maxHeartbeats 4000000 in
set_option maxRecDepth 100000 in
theorem law_note {p : Program} {e : Env} {s : State} {m : MethodId} {below : List Frame} {meth : Method} {c : Code} (l : Launch) (G : va_G) (k : Nat → ClassId) (sa : Nat → Nat) {b : Nat} {xs : Nat → Int32} (C0 : lw_At p s m meth c b 6 xs) (hE : gE G k sa s) {A : Nat → Prop} (hAe : A = fun q => s.heap.size ≤ q) {H : Heap} {locs : List Loc} {ls : Array Slot} (q0 q1 : Nat) (u : Nat → Nat → Nat) (z : Nat → Nat) (hP : va_P G vwCl (ggW k q0 u ++ mmW k q1 z) H) (hD : va_D A (ggW k q0 u ++ mmW k q1 z)) (hS : va_S A s.heap H locs) (hl : lv_has ls 4 [(3, .int 0), (2, .ref q1), (1, .ref q0), (0, .ref b)]) : W p l e room_1 s m #[Value.ref b] below meth c H locs 285 12688 (lw_Z below #[Value.ref b] s) (F0 m 1009 ls []) := by
  obtain ⟨hx, hb, hr, hml, hown, hts, hX, hbl, hlocks, hgv⟩ := id C0
  have hts := hts
  have hA : ∀ q : Nat, s.heap.size ≤ q → A q := by rw [hAe]; exact fun _ h => h
  have hbA : ¬ A b := by rw [hAe]; exact Nat.not_le.mpr hbl
  obtain ⟨y1, e1⟩ : ∃ y : Int32, y = xs (1 : Int32).toNatClampNeg := ⟨_, rfl⟩
  obtain ⟨y2, e2⟩ : ∃ y : Int32, y = xs (2 : Int32).toNatClampNeg := ⟨_, rfl⟩
  obtain ⟨y3, e3⟩ : ∃ y : Int32, y = xs (3 : Int32).toNatClampNeg := ⟨_, rfl⟩
  refine lv_aload_n hx hb dL_law_1009 rfl (lv_at hl 2 rfl) ?_
  refine lv_aload_n hx hb dL_law_1010 rfl (lv_at hl 3 rfl) ?_
  refine lv_iload_n hx hb dL_law_1011 rfl (lv_at hl 0 rfl) ?_
  refine lv_iconst (v := 1) hx hb dL_law_1012 (by decide) ?_
  refine lv_iadd hx hb dL_law_1013 ?_
  refine gz_ni (v := 1) (by decide) ?_
  refine va_sld hx hb hX hbl hbA hS (gz_in (by decide)) dL_law_1014 ?_
  refine gz_ni (v := y1) e1.symm ?_
  refine lv_aload_n hx hb dL_law_1015 rfl (lv_at hl 3 rfl) ?_
  refine lv_iload_n hx hb dL_law_1016 rfl (lv_at hl 0 rfl) ?_
  refine lv_iconst (v := 2) hx hb dL_law_1017 (by decide) ?_
  refine lv_iadd hx hb dL_law_1018 ?_
  refine gz_ni (v := 2) (by decide) ?_
  refine va_sld hx hb hX hbl hbA hS (gz_in (by decide)) dL_law_1019 ?_
  refine gz_ni (v := y2) e2.symm ?_
  refine lv_aload_n hx hb dL_law_1020 rfl (lv_at hl 3 rfl) ?_
  refine lv_iload_n hx hb dL_law_1021 rfl (lv_at hl 0 rfl) ?_
  refine lv_iconst (v := 3) hx hb dL_law_1022 (by decide) ?_
  refine lv_iadd hx hb dL_law_1023 ?_
  refine gz_ni (v := 3) (by decide) ?_
  refine va_sld hx hb hX hbl hbA hS (gz_in (by decide)) dL_law_1024 ?_
  refine gz_ni (v := y3) e3.symm ?_
  refine gz_i (wc := [(q0, .inr (10, [.ref ((u 0) 0), .ref ((u 0) 1), .ref ((u 0) 2), .ref ((u 0) 3), .ref ((u 0) 4), .int 0, .ref ((u 0) 5), .ref ((u 0) 6), .ref ((u 0) 7), .ref ((u 0) 8), .ref ((u 0) 9), .ref ((u 0) 10), .ref ((u 0) 11), .ref ((u 0) 12), .ref ((u 0) 13), .int 0])), ((u 0) 5, .inr (9, [.ref ((u 3) 0), .ref ((u 3) 1), .ref ((u 3) 2), .ref ((u 3) 3), .ref ((u 3) 4), .int 0, .int 0, .int (-1), .int 0])), ((u 3) 1, .inr (2, [.int 0, .int 0, .long 0, .ref ((u 3) 13), .ref ((u 3) 14), .ref ((u 3) 15), .ref ((u 3) 16)]))]) (wr := mmW k q1 z) hP hD hS hA [0, 20, 33] [112, 113, 114, 115, 116, 117, 118, 119, 120, 121, 122, 123, 124, 125, 126, 127, 128, 129, 130, 131, 132, 133] rfl rfl (by decide) (by decide) (va_runV (As := [.int y1, .int y2, .int y3]) (rest := []) ⟨hx, hb, hml, hown, hts⟩ (c_X10_note l G k sa _ q0 (u 0) (u 3) y1 y2 y3) (cwV 3 hts g_L_127_c_X10_note rfl rfl rfl (by decide +kernel) ⟨(Nat.le_of_ble_eq_true rfl), (Nat.le_of_ble_eq_true rfl)⟩) ⟨gP.bl, va_recv hE.K hP (ci := 10) (q0 := 0) rfl rfl, (gP.pre (wc := [(q0, .inr (10, [.ref ((u 0) 0), .ref ((u 0) 1), .ref ((u 0) 2), .ref ((u 0) 3), .ref ((u 0) 4), .int 0, .ref ((u 0) 5), .ref ((u 0) 6), .ref ((u 0) 7), .ref ((u 0) 8), .ref ((u 0) 9), .ref ((u 0) 10), .ref ((u 0) 11), .ref ((u 0) 12), .ref ((u 0) 13), .int 0])), ((u 0) 5, .inr (9, [.ref ((u 3) 0), .ref ((u 3) 1), .ref ((u 3) 2), .ref ((u 3) 3), .ref ((u 3) 4), .int 0, .int 0, .int (-1), .int 0])), ((u 3) 1, .inr (2, [.int 0, .int 0, .long 0, .ref ((u 3) 13), .ref ((u 3) 14), .ref ((u 3) 15), .ref ((u 3) 16)]))]) hE hP hD [0, 20, 33] rfl (by decide))⟩ rfl rfl hl.1 rfl (lv_room (Nat.le_of_ble_eq_true rfl)) dL_law_1025 ⟨(Nat.le_of_ble_eq_true rfl), (Nat.le_of_ble_eq_true rfl)⟩) (fun r_2 u_1 H locs hr_2 hP hD hS => ?_)
  have hP : va_P G vwCl (mmW k q1 z) H := hP
  have hD : va_D A (mmW k q1 z) := hD
  refine lv_aload_n hx hb dL_law_1028 rfl (lv_at hl 1 rfl) ?_
  refine lv_aload_n hx hb dL_law_1029 rfl (lv_at hl 3 rfl) ?_
  refine lv_iload_n hx hb dL_law_1030 rfl (lv_at hl 0 rfl) ?_
  refine lv_iconst (v := 1) hx hb dL_law_1031 (by decide) ?_
  refine lv_iadd hx hb dL_law_1032 ?_
  refine gz_ni (v := 1) (by decide) ?_
  refine va_sld hx hb hX hbl hbA hS (gz_in (by decide)) dL_law_1033 ?_
  refine gz_ni (v := y1) e1.symm ?_
  refine lv_aload_n hx hb dL_law_1034 rfl (lv_at hl 3 rfl) ?_
  refine lv_iload_n hx hb dL_law_1035 rfl (lv_at hl 0 rfl) ?_
  refine lv_iconst (v := 2) hx hb dL_law_1036 (by decide) ?_
  refine lv_iadd hx hb dL_law_1037 ?_
  refine gz_ni (v := 2) (by decide) ?_
  refine va_sld hx hb hX hbl hbA hS (gz_in (by decide)) dL_law_1038 ?_
  refine gz_ni (v := y2) e2.symm ?_
  refine lv_aload_n hx hb dL_law_1039 rfl (lv_at hl 3 rfl) ?_
  refine lv_iload_n hx hb dL_law_1040 rfl (lv_at hl 0 rfl) ?_
  refine lv_iconst (v := 3) hx hb dL_law_1041 (by decide) ?_
  refine lv_iadd hx hb dL_law_1042 ?_
  refine gz_ni (v := 3) (by decide) ?_
  refine va_sld hx hb hX hbl hbA hS (gz_in (by decide)) dL_law_1043 ?_
  refine gz_ni (v := y3) e3.symm ?_
  refine gz_i (wc := [(q1, .inr (11, [.ref (z 0), .int 0, .int 0, .ref (z 3), .ref (z 4), .ref (z 5), .ref (z 6), .ref (z 7), .int 0, .int 0, .int 0, .int 0, .int 0, .int 0, .int 0, .ref (z 15), .int 0, .ref (z 17), .int 0, .ref (z 19), .ref (z 20), .int (-1), .int 0, .ref (z 23), .int (-1), .int (-1), .int (-1), .int 0, .int (-1), .int 0, .ref (z 30), .int 0, .ref (z 32), .int 0, .int 0, .ref (z 35), .ref (z 36), .ref (z 37), .ref (z 38), .long 0, .ref (z 40), .ref (z 41), .ref (z 42), .ref (z 43)])), (z 20, .inl (k 0, 206, .inl (fun _ => 0)))]) (wr := []) hP hD hS hA [0, 10] [] rfl rfl (by decide) (by decide) (va_runV (As := [.int y1, .int y2, .int y3]) (rest := [.int r_2]) ⟨hx, hb, hml, hown, hts⟩ (m_note l G k sa _ q1 z y1 y2 y3) (cwV 3 hts g_L_130_m_note rfl rfl rfl (by decide +kernel) ⟨(Nat.le_of_ble_eq_true rfl), (Nat.le_of_ble_eq_true rfl)⟩) ⟨gP.bl, va_recv hE.K hP (ci := 11) (q0 := 0) rfl rfl, (gP.pre (wc := [(q1, .inr (11, [.ref (z 0), .int 0, .int 0, .ref (z 3), .ref (z 4), .ref (z 5), .ref (z 6), .ref (z 7), .int 0, .int 0, .int 0, .int 0, .int 0, .int 0, .int 0, .ref (z 15), .int 0, .ref (z 17), .int 0, .ref (z 19), .ref (z 20), .int (-1), .int 0, .ref (z 23), .int (-1), .int (-1), .int (-1), .int 0, .int (-1), .int 0, .ref (z 30), .int 0, .ref (z 32), .int 0, .int 0, .ref (z 35), .ref (z 36), .ref (z 37), .ref (z 38), .long 0, .ref (z 40), .ref (z 41), .ref (z 42), .ref (z 43)])), (z 20, .inl (k 0, 206, .inl (fun _ => 0)))]) hE hP hD [0, 10] rfl (by decide))⟩ rfl rfl hl.1 rfl (lv_room (Nat.le_of_ble_eq_true rfl)) dL_law_1044 ⟨(Nat.le_of_ble_eq_true rfl), (Nat.le_of_ble_eq_true rfl)⟩) (fun r_4 u_3 H locs hr_4 hP hD hS => ?_)
  have hP : va_P G vwCl [] H := hP
  have hD : va_D A [] := hD
  refine lv_icmp_eq (tgt := 1253) hx hb dL_law_1047 (by decide) (fun _ => ?_) (fun h9 => absurd (gz_ag_note hr_2 hr_4) h9)
  refine lv_iinc (v := 6) (lv' := [(3, .int 6), (2, .ref q1), (1, .ref q0), (0, .ref b)]) hx hb dL_law_1253 hl (k := 0) rfl (by decide) (by decide) rfl (fun ls hl => ?_)
  refine lv_goto (tgt := 18) hx hb dL_law_1256 (by decide) ?_
  refine lv_iload_n hx hb dL_law_18 rfl (lv_at hl 0 rfl) ?_
  refine lv_aload_n hx hb dL_law_19 rfl (lv_at hl 3 rfl) ?_
  refine va_slen hx hb hX hbl hbA hS dL_law_20 ?_
  refine gz_ni (v := 6) (by decide) ?_
  refine lv_bipush (v := 6) hx hb dL_law_21 (by decide) ?_
  refine lv_isub hx hb dL_law_23 ?_
  refine gz_ni (v := 0) (by decide) ?_
  refine lv_icmp_gt (tgt := 1259) hx hb dL_law_24 (by decide) (fun _ => ?_) (fun h9 => absurd h9 (by decide))
  refine lv_iconst (v := 1) hx hb dL_law_1259 (by decide) ?_
  refine va_forget (fun q hq => by have h9 := hS.2.2 q hq; rw [hAe] at h9; exact h9) ?_
  refine W.widen (k := 600000) (n := 7302250) (Nat.le_of_ble_eq_true rfl) (Nat.le_of_ble_eq_true rfl) ?_
  exact lw_ret hx hb hr hlocks dL_law_1260
set_option maxHeartbeats 4000000 in
set_option maxRecDepth 100000 in
theorem law_ruled {p : Program} {e : Env} {s : State} {m : MethodId} {below : List Frame} {meth : Method} {c : Code} (l : Launch) (G : va_G) (k : Nat → ClassId) (sa : Nat → Nat) {b : Nat} {xs : Nat → Int32} (C0 : lw_At p s m meth c b 6 xs) (hE : gE G k sa s) {A : Nat → Prop} (hAe : A = fun q => s.heap.size ≤ q) {H : Heap} {locs : List Loc} {ls : Array Slot} (q0 q1 : Nat) (u : Nat → Nat → Nat) (z : Nat → Nat) (hP : va_P G vwCl (ggW k q0 u ++ mmW k q1 z) H) (hD : va_D A (ggW k q0 u ++ mmW k q1 z)) (hS : va_S A s.heap H locs) (hl : lv_has ls 4 [(3, .int 0), (2, .ref q1), (1, .ref q0), (0, .ref b)]) : W p l e room_1 s m #[Value.ref b] below meth c H locs 285 12688 (lw_Z below #[Value.ref b] s) (F0 m 1052 ls []) := by
  obtain ⟨hx, hb, hr, hml, hown, hts, hX, hbl, hlocks, hgv⟩ := id C0
  have hts := hts
  have hA : ∀ q : Nat, s.heap.size ≤ q → A q := by rw [hAe]; exact fun _ h => h
  have hbA : ¬ A b := by rw [hAe]; exact Nat.not_le.mpr hbl
  obtain ⟨y1, e1⟩ : ∃ y : Int32, y = xs (1 : Int32).toNatClampNeg := ⟨_, rfl⟩
  refine lv_aload_n hx hb dL_law_1052 rfl (lv_at hl 2 rfl) ?_
  refine lv_aload_n hx hb dL_law_1053 rfl (lv_at hl 3 rfl) ?_
  refine lv_iload_n hx hb dL_law_1054 rfl (lv_at hl 0 rfl) ?_
  refine lv_iconst (v := 1) hx hb dL_law_1055 (by decide) ?_
  refine lv_iadd hx hb dL_law_1056 ?_
  refine gz_ni (v := 1) (by decide) ?_
  refine va_sld hx hb hX hbl hbA hS (gz_in (by decide)) dL_law_1057 ?_
  refine gz_ni (v := y1) e1.symm ?_
  refine vp_callSi (W.runV (As := [.int y1]) (rest := []) ⟨hx, hb, hml, hown, hts⟩ (c_X10_ruled l G k sa q0 (u 0) (u 3) y1) (cwV 1 hts g_L_131_c_X10_ruled rfl rfl rfl (by decide +kernel) ⟨(Nat.le_of_ble_eq_true rfl), (Nat.le_of_ble_eq_true rfl)⟩) ⟨gR.bl, va_recv hE.K hP (ci := 10) (q0 := 0) rfl rfl, (gR.pre (wc := [(q0, .inr (10, [.ref ((u 0) 0), .ref ((u 0) 1), .ref ((u 0) 2), .ref ((u 0) 3), .ref ((u 0) 4), .int 0, .ref ((u 0) 5), .ref ((u 0) 6), .ref ((u 0) 7), .ref ((u 0) 8), .ref ((u 0) 9), .ref ((u 0) 10), .ref ((u 0) 11), .ref ((u 0) 12), .ref ((u 0) 13), .int 0])), ((u 0) 5, .inr (9, [.ref ((u 3) 0), .ref ((u 3) 1), .ref ((u 3) 2), .ref ((u 3) 3), .ref ((u 3) 4), .int 0, .int 0, .int (-1), .int 0])), ((u 3) 0, .inr (0, [.int 0, .int 0, .ref ((u 3) 5), .ref ((u 3) 6), .ref ((u 3) 7), .ref ((u 3) 8)]))]) hE hP [0, 20, 24] rfl)⟩ rfl rfl hl.1 rfl (lv_room (Nat.le_of_ble_eq_true rfl)) dL_law_1058 ⟨(Nat.le_of_ble_eq_true rfl), (Nat.le_of_ble_eq_true rfl)⟩) (fun r_1 hr_1 => ?_)
  obtain rfl : r_1 = (-3) := hr_1
  refine lv_aload_n hx hb dL_law_1061 rfl (lv_at hl 1 rfl) ?_
  refine lv_aload_n hx hb dL_law_1062 rfl (lv_at hl 3 rfl) ?_
  refine lv_iload_n hx hb dL_law_1063 rfl (lv_at hl 0 rfl) ?_
  refine lv_iconst (v := 1) hx hb dL_law_1064 (by decide) ?_
  refine lv_iadd hx hb dL_law_1065 ?_
  refine gz_ni (v := 1) (by decide) ?_
  refine va_sld hx hb hX hbl hbA hS (gz_in (by decide)) dL_law_1066 ?_
  refine gz_ni (v := y1) e1.symm ?_
  refine vp_callSi (W.runV (As := [.int y1]) (rest := [.int (-3)]) ⟨hx, hb, hml, hown, hts⟩ (m_ruled l G k sa q1 z y1) (cwV 1 hts g_L_134_m_ruled rfl rfl rfl (by decide +kernel) ⟨(Nat.le_of_ble_eq_true rfl), (Nat.le_of_ble_eq_true rfl)⟩) ⟨gR.bl, va_recv hE.K hP (ci := 11) (q0 := 112) rfl rfl, (gR.pre (wc := [(q1, .inr (11, [.ref (z 0), .int 0, .int 0, .ref (z 3), .ref (z 4), .ref (z 5), .ref (z 6), .ref (z 7), .int 0, .int 0, .int 0, .int 0, .int 0, .int 0, .int 0, .ref (z 15), .int 0, .ref (z 17), .int 0, .ref (z 19), .ref (z 20), .int (-1), .int 0, .ref (z 23), .int (-1), .int (-1), .int (-1), .int 0, .int (-1), .int 0, .ref (z 30), .int 0, .ref (z 32), .int 0, .int 0, .ref (z 35), .ref (z 36), .ref (z 37), .ref (z 38), .long 0, .ref (z 40), .ref (z 41), .ref (z 42), .ref (z 43)])), (z 20, .inl (k 0, 206, .inl (fun _ => 0)))]) hE hP [112, 122] rfl)⟩ rfl rfl hl.1 rfl (lv_room (Nat.le_of_ble_eq_true rfl)) dL_law_1067 ⟨(Nat.le_of_ble_eq_true rfl), (Nat.le_of_ble_eq_true rfl)⟩) (fun r_2 hr_2 => ?_)
  obtain rfl : r_2 = (-3) := hr_2
  refine lv_icmp_eq (tgt := 1253) hx hb dL_law_1070 (by decide) (fun _ => ?_) (fun h9 => absurd rfl h9)
  refine lv_iinc (v := 6) (lv' := [(3, .int 6), (2, .ref q1), (1, .ref q0), (0, .ref b)]) hx hb dL_law_1253 hl (k := 0) rfl (by decide) (by decide) rfl (fun ls hl => ?_)
  refine lv_goto (tgt := 18) hx hb dL_law_1256 (by decide) ?_
  refine lv_iload_n hx hb dL_law_18 rfl (lv_at hl 0 rfl) ?_
  refine lv_aload_n hx hb dL_law_19 rfl (lv_at hl 3 rfl) ?_
  refine va_slen hx hb hX hbl hbA hS dL_law_20 ?_
  refine gz_ni (v := 6) (by decide) ?_
  refine lv_bipush (v := 6) hx hb dL_law_21 (by decide) ?_
  refine lv_isub hx hb dL_law_23 ?_
  refine gz_ni (v := 0) (by decide) ?_
  refine lv_icmp_gt (tgt := 1259) hx hb dL_law_24 (by decide) (fun _ => ?_) (fun h9 => absurd h9 (by decide))
  refine lv_iconst (v := 1) hx hb dL_law_1259 (by decide) ?_
  refine va_forget (fun q hq => by have h9 := hS.2.2 q hq; rw [hAe] at h9; exact h9) ?_
  refine W.widen (k := 600000) (n := 7302250) (Nat.le_of_ble_eq_true rfl) (Nat.le_of_ble_eq_true rfl) ?_
  exact lw_ret hx hb hr hlocks dL_law_1260
set_option maxHeartbeats 4000000 in
set_option maxRecDepth 100000 in
theorem law_look {p : Program} {e : Env} {s : State} {m : MethodId} {below : List Frame} {meth : Method} {c : Code} (l : Launch) (G : va_G) (k : Nat → ClassId) (sa : Nat → Nat) {b : Nat} {xs : Nat → Int32} (C0 : lw_At p s m meth c b 6 xs) (hE : gE G k sa s) {A : Nat → Prop} (hAe : A = fun q => s.heap.size ≤ q) {H : Heap} {locs : List Loc} {ls : Array Slot} (q0 q1 : Nat) (u : Nat → Nat → Nat) (z : Nat → Nat) (hP : va_P G vwCl (ggW k q0 u ++ mmW k q1 z) H) (hD : va_D A (ggW k q0 u ++ mmW k q1 z)) (hS : va_S A s.heap H locs) (hl : lv_has ls 4 [(3, .int 0), (2, .ref q1), (1, .ref q0), (0, .ref b)]) : W p l e room_1 s m #[Value.ref b] below meth c H locs 285 12688 (lw_Z below #[Value.ref b] s) (F0 m 1075 ls []) := by
  obtain ⟨hx, hb, hr, hml, hown, hts, hX, hbl, hlocks, hgv⟩ := id C0
  have hts := hts
  have hA : ∀ q : Nat, s.heap.size ≤ q → A q := by rw [hAe]; exact fun _ h => h
  have hbA : ¬ A b := by rw [hAe]; exact Nat.not_le.mpr hbl
  obtain ⟨y1, e1⟩ : ∃ y : Int32, y = xs (1 : Int32).toNatClampNeg := ⟨_, rfl⟩
  obtain ⟨y2, e2⟩ : ∃ y : Int32, y = xs (2 : Int32).toNatClampNeg := ⟨_, rfl⟩
  refine lv_aload_n hx hb dL_law_1075 rfl (lv_at hl 2 rfl) ?_
  refine lv_aload_n hx hb dL_law_1076 rfl (lv_at hl 3 rfl) ?_
  refine lv_iload_n hx hb dL_law_1077 rfl (lv_at hl 0 rfl) ?_
  refine lv_iconst (v := 1) hx hb dL_law_1078 (by decide) ?_
  refine lv_iadd hx hb dL_law_1079 ?_
  refine gz_ni (v := 1) (by decide) ?_
  refine va_sld hx hb hX hbl hbA hS (gz_in (by decide)) dL_law_1080 ?_
  refine gz_ni (v := y1) e1.symm ?_
  refine lv_aload_n hx hb dL_law_1081 rfl (lv_at hl 3 rfl) ?_
  refine lv_iload_n hx hb dL_law_1082 rfl (lv_at hl 0 rfl) ?_
  refine lv_iconst (v := 2) hx hb dL_law_1083 (by decide) ?_
  refine lv_iadd hx hb dL_law_1084 ?_
  refine gz_ni (v := 2) (by decide) ?_
  refine va_sld hx hb hX hbl hbA hS (gz_in (by decide)) dL_law_1085 ?_
  refine gz_ni (v := y2) e2.symm ?_
  refine vp_callSi (W.runV (As := [.int y1, .int y2]) (rest := []) ⟨hx, hb, hml, hown, hts⟩ (c_X10_look l G k sa q0 (u 0) (u 3) y1 y2) (cwV 2 hts g_L_135_c_X10_look rfl rfl rfl (by decide +kernel) ⟨(Nat.le_of_ble_eq_true rfl), (Nat.le_of_ble_eq_true rfl)⟩) ⟨gR.bl, va_recv hE.K hP (ci := 10) (q0 := 0) rfl rfl, (gR.pre (wc := [(q0, .inr (10, [.ref ((u 0) 0), .ref ((u 0) 1), .ref ((u 0) 2), .ref ((u 0) 3), .ref ((u 0) 4), .int 0, .ref ((u 0) 5), .ref ((u 0) 6), .ref ((u 0) 7), .ref ((u 0) 8), .ref ((u 0) 9), .ref ((u 0) 10), .ref ((u 0) 11), .ref ((u 0) 12), .ref ((u 0) 13), .int 0])), ((u 0) 5, .inr (9, [.ref ((u 3) 0), .ref ((u 3) 1), .ref ((u 3) 2), .ref ((u 3) 3), .ref ((u 3) 4), .int 0, .int 0, .int (-1), .int 0])), ((u 3) 0, .inr (0, [.int 0, .int 0, .ref ((u 3) 5), .ref ((u 3) 6), .ref ((u 3) 7), .ref ((u 3) 8)]))]) hE hP [0, 20, 24] rfl)⟩ rfl rfl hl.1 rfl (lv_room (Nat.le_of_ble_eq_true rfl)) dL_law_1086 ⟨(Nat.le_of_ble_eq_true rfl), (Nat.le_of_ble_eq_true rfl)⟩) (fun r_1 hr_1 => ?_)
  obtain rfl : r_1 = (-1) := hr_1
  refine lv_aload_n hx hb dL_law_1089 rfl (lv_at hl 1 rfl) ?_
  refine lv_aload_n hx hb dL_law_1090 rfl (lv_at hl 3 rfl) ?_
  refine lv_iload_n hx hb dL_law_1091 rfl (lv_at hl 0 rfl) ?_
  refine lv_iconst (v := 1) hx hb dL_law_1092 (by decide) ?_
  refine lv_iadd hx hb dL_law_1093 ?_
  refine gz_ni (v := 1) (by decide) ?_
  refine va_sld hx hb hX hbl hbA hS (gz_in (by decide)) dL_law_1094 ?_
  refine gz_ni (v := y1) e1.symm ?_
  refine lv_aload_n hx hb dL_law_1095 rfl (lv_at hl 3 rfl) ?_
  refine lv_iload_n hx hb dL_law_1096 rfl (lv_at hl 0 rfl) ?_
  refine lv_iconst (v := 2) hx hb dL_law_1097 (by decide) ?_
  refine lv_iadd hx hb dL_law_1098 ?_
  refine gz_ni (v := 2) (by decide) ?_
  refine va_sld hx hb hX hbl hbA hS (gz_in (by decide)) dL_law_1099 ?_
  refine gz_ni (v := y2) e2.symm ?_
  refine vp_callSi (W.runV (As := [.int y1, .int y2]) (rest := [.int (-1)]) ⟨hx, hb, hml, hown, hts⟩ (m_look l G k sa q1 z y1 y2) (cwV 2 hts g_L_138_m_look rfl rfl rfl (by decide +kernel) ⟨(Nat.le_of_ble_eq_true rfl), (Nat.le_of_ble_eq_true rfl)⟩) ⟨gR.bl, va_recv hE.K hP (ci := 11) (q0 := 112) rfl rfl, (gR.pre (wc := [(q1, .inr (11, [.ref (z 0), .int 0, .int 0, .ref (z 3), .ref (z 4), .ref (z 5), .ref (z 6), .ref (z 7), .int 0, .int 0, .int 0, .int 0, .int 0, .int 0, .int 0, .ref (z 15), .int 0, .ref (z 17), .int 0, .ref (z 19), .ref (z 20), .int (-1), .int 0, .ref (z 23), .int (-1), .int (-1), .int (-1), .int 0, .int (-1), .int 0, .ref (z 30), .int 0, .ref (z 32), .int 0, .int 0, .ref (z 35), .ref (z 36), .ref (z 37), .ref (z 38), .long 0, .ref (z 40), .ref (z 41), .ref (z 42), .ref (z 43)])), (z 20, .inl (k 0, 206, .inl (fun _ => 0)))]) hE hP [112, 122] rfl)⟩ rfl rfl hl.1 rfl (lv_room (Nat.le_of_ble_eq_true rfl)) dL_law_1100 ⟨(Nat.le_of_ble_eq_true rfl), (Nat.le_of_ble_eq_true rfl)⟩) (fun r_2 hr_2 => ?_)
  obtain rfl : r_2 = (-1) := hr_2
  refine lv_icmp_eq (tgt := 1253) hx hb dL_law_1103 (by decide) (fun _ => ?_) (fun h9 => absurd rfl h9)
  refine lv_iinc (v := 6) (lv' := [(3, .int 6), (2, .ref q1), (1, .ref q0), (0, .ref b)]) hx hb dL_law_1253 hl (k := 0) rfl (by decide) (by decide) rfl (fun ls hl => ?_)
  refine lv_goto (tgt := 18) hx hb dL_law_1256 (by decide) ?_
  refine lv_iload_n hx hb dL_law_18 rfl (lv_at hl 0 rfl) ?_
  refine lv_aload_n hx hb dL_law_19 rfl (lv_at hl 3 rfl) ?_
  refine va_slen hx hb hX hbl hbA hS dL_law_20 ?_
  refine gz_ni (v := 6) (by decide) ?_
  refine lv_bipush (v := 6) hx hb dL_law_21 (by decide) ?_
  refine lv_isub hx hb dL_law_23 ?_
  refine gz_ni (v := 0) (by decide) ?_
  refine lv_icmp_gt (tgt := 1259) hx hb dL_law_24 (by decide) (fun _ => ?_) (fun h9 => absurd h9 (by decide))
  refine lv_iconst (v := 1) hx hb dL_law_1259 (by decide) ?_
  refine va_forget (fun q hq => by have h9 := hS.2.2 q hq; rw [hAe] at h9; exact h9) ?_
  refine W.widen (k := 600000) (n := 7302250) (Nat.le_of_ble_eq_true rfl) (Nat.le_of_ble_eq_true rfl) ?_
  exact lw_ret hx hb hr hlocks dL_law_1260
set_option maxHeartbeats 4000000 in
set_option maxRecDepth 100000 in
theorem law_seed {p : Program} {e : Env} {s : State} {m : MethodId} {below : List Frame} {meth : Method} {c : Code} (l : Launch) (G : va_G) (k : Nat → ClassId) (sa : Nat → Nat) {b : Nat} {xs : Nat → Int32} (C0 : lw_At p s m meth c b 6 xs) (hE : gE G k sa s) {A : Nat → Prop} (hAe : A = fun q => s.heap.size ≤ q) {H : Heap} {locs : List Loc} {ls : Array Slot} (q0 q1 : Nat) (u : Nat → Nat → Nat) (z : Nat → Nat) (hP : va_P G vwCl (ggW k q0 u ++ mmW k q1 z) H) (hD : va_D A (ggW k q0 u ++ mmW k q1 z)) (hS : va_S A s.heap H locs) (hl : lv_has ls 4 [(3, .int 0), (2, .ref q1), (1, .ref q0), (0, .ref b)]) : W p l e room_1 s m #[Value.ref b] below meth c H locs 285 12688 (lw_Z below #[Value.ref b] s) (F0 m 1108 ls []) := by
  obtain ⟨hx, hb, hr, hml, hown, hts, hX, hbl, hlocks, hgv⟩ := id C0
  have hts := hts
  have hA : ∀ q : Nat, s.heap.size ≤ q → A q := by rw [hAe]; exact fun _ h => h
  have hbA : ¬ A b := by rw [hAe]; exact Nat.not_le.mpr hbl
  obtain ⟨y1, e1⟩ : ∃ y : Int32, y = xs (1 : Int32).toNatClampNeg := ⟨_, rfl⟩
  refine lv_aload_n hx hb dL_law_1108 rfl (lv_at hl 2 rfl) ?_
  refine lv_aload_n hx hb dL_law_1109 rfl (lv_at hl 3 rfl) ?_
  refine lv_iload_n hx hb dL_law_1110 rfl (lv_at hl 0 rfl) ?_
  refine lv_iconst (v := 1) hx hb dL_law_1111 (by decide) ?_
  refine lv_iadd hx hb dL_law_1112 ?_
  refine gz_ni (v := 1) (by decide) ?_
  refine va_sld hx hb hX hbl hbA hS (gz_in (by decide)) dL_law_1113 ?_
  refine gz_ni (v := y1) e1.symm ?_
  refine gz_i (wc := [(q0, .inr (10, [.ref ((u 0) 0), .ref ((u 0) 1), .ref ((u 0) 2), .ref ((u 0) 3), .ref ((u 0) 4), .int 0, .ref ((u 0) 5), .ref ((u 0) 6), .ref ((u 0) 7), .ref ((u 0) 8), .ref ((u 0) 9), .ref ((u 0) 10), .ref ((u 0) 11), .ref ((u 0) 12), .ref ((u 0) 13), .int 0])), ((u 0) 5, .inr (9, [.ref ((u 3) 0), .ref ((u 3) 1), .ref ((u 3) 2), .ref ((u 3) 3), .ref ((u 3) 4), .int 0, .int 0, .int (-1), .int 0]))]) (wr := mmW k q1 z) hP hD hS hA [0, 20] [112, 113, 114, 115, 116, 117, 118, 119, 120, 121, 122, 123, 124, 125, 126, 127, 128, 129, 130, 131, 132, 133] rfl rfl (by decide) (by decide) (va_runV (As := [.int y1]) (rest := []) ⟨hx, hb, hml, hown, hts⟩ (c_X10_seed l G k sa _ q0 (u 0) (u 3) y1) (cwV 1 hts g_L_139_c_X10_seed rfl rfl rfl (by decide +kernel) ⟨(Nat.le_of_ble_eq_true rfl), (Nat.le_of_ble_eq_true rfl)⟩) ⟨gP.bl, va_recv hE.K hP (ci := 10) (q0 := 0) rfl rfl, (gP.pre (wc := [(q0, .inr (10, [.ref ((u 0) 0), .ref ((u 0) 1), .ref ((u 0) 2), .ref ((u 0) 3), .ref ((u 0) 4), .int 0, .ref ((u 0) 5), .ref ((u 0) 6), .ref ((u 0) 7), .ref ((u 0) 8), .ref ((u 0) 9), .ref ((u 0) 10), .ref ((u 0) 11), .ref ((u 0) 12), .ref ((u 0) 13), .int 0])), ((u 0) 5, .inr (9, [.ref ((u 3) 0), .ref ((u 3) 1), .ref ((u 3) 2), .ref ((u 3) 3), .ref ((u 3) 4), .int 0, .int 0, .int (-1), .int 0]))]) hE hP hD [0, 20] rfl (by decide))⟩ rfl rfl hl.1 rfl (lv_room (Nat.le_of_ble_eq_true rfl)) dL_law_1114 ⟨(Nat.le_of_ble_eq_true rfl), (Nat.le_of_ble_eq_true rfl)⟩) (fun r_2 u_1 H locs hr_2 hP hD hS => ?_)
  have hP : va_P G vwCl (mmW k q1 z) H := hP
  have hD : va_D A (mmW k q1 z) := hD
  refine lv_aload_n hx hb dL_law_1117 rfl (lv_at hl 1 rfl) ?_
  refine lv_aload_n hx hb dL_law_1118 rfl (lv_at hl 3 rfl) ?_
  refine lv_iload_n hx hb dL_law_1119 rfl (lv_at hl 0 rfl) ?_
  refine lv_iconst (v := 1) hx hb dL_law_1120 (by decide) ?_
  refine lv_iadd hx hb dL_law_1121 ?_
  refine gz_ni (v := 1) (by decide) ?_
  refine va_sld hx hb hX hbl hbA hS (gz_in (by decide)) dL_law_1122 ?_
  refine gz_ni (v := y1) e1.symm ?_
  refine gz_i (wc := [(q1, .inr (11, [.ref (z 0), .int 0, .int 0, .ref (z 3), .ref (z 4), .ref (z 5), .ref (z 6), .ref (z 7), .int 0, .int 0, .int 0, .int 0, .int 0, .int 0, .int 0, .ref (z 15), .int 0, .ref (z 17), .int 0, .ref (z 19), .ref (z 20), .int (-1), .int 0, .ref (z 23), .int (-1), .int (-1), .int (-1), .int 0, .int (-1), .int 0, .ref (z 30), .int 0, .ref (z 32), .int 0, .int 0, .ref (z 35), .ref (z 36), .ref (z 37), .ref (z 38), .long 0, .ref (z 40), .ref (z 41), .ref (z 42), .ref (z 43)]))]) (wr := []) hP hD hS hA [0] [] rfl rfl (by decide) (by decide) (va_runV (As := [.int y1]) (rest := [.int r_2]) ⟨hx, hb, hml, hown, hts⟩ (m_seed l G k sa _ q1 z y1) (cwV 1 hts g_L_142_m_seed rfl rfl rfl (by decide +kernel) ⟨(Nat.le_of_ble_eq_true rfl), (Nat.le_of_ble_eq_true rfl)⟩) ⟨gP.bl, va_recv hE.K hP (ci := 11) (q0 := 0) rfl rfl, (gP.pre (wc := [(q1, .inr (11, [.ref (z 0), .int 0, .int 0, .ref (z 3), .ref (z 4), .ref (z 5), .ref (z 6), .ref (z 7), .int 0, .int 0, .int 0, .int 0, .int 0, .int 0, .int 0, .ref (z 15), .int 0, .ref (z 17), .int 0, .ref (z 19), .ref (z 20), .int (-1), .int 0, .ref (z 23), .int (-1), .int (-1), .int (-1), .int 0, .int (-1), .int 0, .ref (z 30), .int 0, .ref (z 32), .int 0, .int 0, .ref (z 35), .ref (z 36), .ref (z 37), .ref (z 38), .long 0, .ref (z 40), .ref (z 41), .ref (z 42), .ref (z 43)]))]) hE hP hD [0] rfl (by decide))⟩ rfl rfl hl.1 rfl (lv_room (Nat.le_of_ble_eq_true rfl)) dL_law_1123 ⟨(Nat.le_of_ble_eq_true rfl), (Nat.le_of_ble_eq_true rfl)⟩) (fun r_4 u_3 H locs hr_4 hP hD hS => ?_)
  have hP : va_P G vwCl [] H := hP
  have hD : va_D A [] := hD
  refine lv_icmp_eq (tgt := 1253) hx hb dL_law_1126 (by decide) (fun _ => ?_) (fun h9 => absurd (gz_ag_seed hr_2 hr_4) h9)
  refine lv_iinc (v := 6) (lv' := [(3, .int 6), (2, .ref q1), (1, .ref q0), (0, .ref b)]) hx hb dL_law_1253 hl (k := 0) rfl (by decide) (by decide) rfl (fun ls hl => ?_)
  refine lv_goto (tgt := 18) hx hb dL_law_1256 (by decide) ?_
  refine lv_iload_n hx hb dL_law_18 rfl (lv_at hl 0 rfl) ?_
  refine lv_aload_n hx hb dL_law_19 rfl (lv_at hl 3 rfl) ?_
  refine va_slen hx hb hX hbl hbA hS dL_law_20 ?_
  refine gz_ni (v := 6) (by decide) ?_
  refine lv_bipush (v := 6) hx hb dL_law_21 (by decide) ?_
  refine lv_isub hx hb dL_law_23 ?_
  refine gz_ni (v := 0) (by decide) ?_
  refine lv_icmp_gt (tgt := 1259) hx hb dL_law_24 (by decide) (fun _ => ?_) (fun h9 => absurd h9 (by decide))
  refine lv_iconst (v := 1) hx hb dL_law_1259 (by decide) ?_
  refine va_forget (fun q hq => by have h9 := hS.2.2 q hq; rw [hAe] at h9; exact h9) ?_
  refine W.widen (k := 600000) (n := 7302250) (Nat.le_of_ble_eq_true rfl) (Nat.le_of_ble_eq_true rfl) ?_
  exact lw_ret hx hb hr hlocks dL_law_1260
set_option maxHeartbeats 4000000 in
set_option maxRecDepth 100000 in
theorem law_gusts {p : Program} {e : Env} {s : State} {m : MethodId} {below : List Frame} {meth : Method} {c : Code} (l : Launch) (G : va_G) (k : Nat → ClassId) (sa : Nat → Nat) {b : Nat} {xs : Nat → Int32} (C0 : lw_At p s m meth c b 6 xs) (hE : gE G k sa s) {A : Nat → Prop} (hAe : A = fun q => s.heap.size ≤ q) {H : Heap} {locs : List Loc} {ls : Array Slot} (q0 q1 : Nat) (u : Nat → Nat → Nat) (z : Nat → Nat) (hP : va_P G vwCl (ggW k q0 u ++ mmW k q1 z) H) (hD : va_D A (ggW k q0 u ++ mmW k q1 z)) (hS : va_S A s.heap H locs) (hl : lv_has ls 4 [(3, .int 0), (2, .ref q1), (1, .ref q0), (0, .ref b)]) : W p l e room_1 s m #[Value.ref b] below meth c H locs 285 12688 (lw_Z below #[Value.ref b] s) (F0 m 1131 ls []) := by
  obtain ⟨hx, hb, hr, hml, hown, hts, hX, hbl, hlocks, hgv⟩ := id C0
  have hts := hts
  have hA : ∀ q : Nat, s.heap.size ≤ q → A q := by rw [hAe]; exact fun _ h => h
  have hbA : ¬ A b := by rw [hAe]; exact Nat.not_le.mpr hbl
  obtain ⟨y1, e1⟩ : ∃ y : Int32, y = xs (1 : Int32).toNatClampNeg := ⟨_, rfl⟩
  obtain ⟨y2, e2⟩ : ∃ y : Int32, y = xs (2 : Int32).toNatClampNeg := ⟨_, rfl⟩
  obtain ⟨y3, e3⟩ : ∃ y : Int32, y = xs (3 : Int32).toNatClampNeg := ⟨_, rfl⟩
  obtain ⟨y4, e4⟩ : ∃ y : Int32, y = xs (4 : Int32).toNatClampNeg := ⟨_, rfl⟩
  refine lv_aload_n hx hb dL_law_1131 rfl (lv_at hl 2 rfl) ?_
  refine lv_aload_n hx hb dL_law_1132 rfl (lv_at hl 3 rfl) ?_
  refine lv_iload_n hx hb dL_law_1133 rfl (lv_at hl 0 rfl) ?_
  refine lv_iconst (v := 1) hx hb dL_law_1134 (by decide) ?_
  refine lv_iadd hx hb dL_law_1135 ?_
  refine gz_ni (v := 1) (by decide) ?_
  refine va_sld hx hb hX hbl hbA hS (gz_in (by decide)) dL_law_1136 ?_
  refine gz_ni (v := y1) e1.symm ?_
  refine lv_aload_n hx hb dL_law_1137 rfl (lv_at hl 3 rfl) ?_
  refine lv_iload_n hx hb dL_law_1138 rfl (lv_at hl 0 rfl) ?_
  refine lv_iconst (v := 2) hx hb dL_law_1139 (by decide) ?_
  refine lv_iadd hx hb dL_law_1140 ?_
  refine gz_ni (v := 2) (by decide) ?_
  refine va_sld hx hb hX hbl hbA hS (gz_in (by decide)) dL_law_1141 ?_
  refine gz_ni (v := y2) e2.symm ?_
  refine lv_aload_n hx hb dL_law_1142 rfl (lv_at hl 3 rfl) ?_
  refine lv_iload_n hx hb dL_law_1143 rfl (lv_at hl 0 rfl) ?_
  refine lv_iconst (v := 3) hx hb dL_law_1144 (by decide) ?_
  refine lv_iadd hx hb dL_law_1145 ?_
  refine gz_ni (v := 3) (by decide) ?_
  refine va_sld hx hb hX hbl hbA hS (gz_in (by decide)) dL_law_1146 ?_
  refine gz_ni (v := y3) e3.symm ?_
  refine lv_aload_n hx hb dL_law_1147 rfl (lv_at hl 3 rfl) ?_
  refine lv_iload_n hx hb dL_law_1148 rfl (lv_at hl 0 rfl) ?_
  refine lv_iconst (v := 4) hx hb dL_law_1149 (by decide) ?_
  refine lv_iadd hx hb dL_law_1150 ?_
  refine gz_ni (v := 4) (by decide) ?_
  refine va_sld hx hb hX hbl hbA hS (gz_in (by decide)) dL_law_1151 ?_
  refine gz_ni (v := y4) e4.symm ?_
  refine vp_callSi (W.runV (As := [.int y1, .int y2, .int y3, .int y4]) (rest := []) ⟨hx, hb, hml, hown, hts⟩ (c_X10_gusts l G k sa q0 (u 0) (u 3) y1 y2 y3 y4) (cwV 4 hts g_L_143_c_X10_gusts rfl rfl rfl (by decide +kernel) ⟨(Nat.le_of_ble_eq_true rfl), (Nat.le_of_ble_eq_true rfl)⟩) ⟨gR.bl, va_recv hE.K hP (ci := 10) (q0 := 0) rfl rfl, (gR.pre (wc := [(q0, .inr (10, [.ref ((u 0) 0), .ref ((u 0) 1), .ref ((u 0) 2), .ref ((u 0) 3), .ref ((u 0) 4), .int 0, .ref ((u 0) 5), .ref ((u 0) 6), .ref ((u 0) 7), .ref ((u 0) 8), .ref ((u 0) 9), .ref ((u 0) 10), .ref ((u 0) 11), .ref ((u 0) 12), .ref ((u 0) 13), .int 0])), ((u 0) 5, .inr (9, [.ref ((u 3) 0), .ref ((u 3) 1), .ref ((u 3) 2), .ref ((u 3) 3), .ref ((u 3) 4), .int 0, .int 0, .int (-1), .int 0])), ((u 3) 0, .inr (0, [.int 0, .int 0, .ref ((u 3) 5), .ref ((u 3) 6), .ref ((u 3) 7), .ref ((u 3) 8)]))]) hE hP [0, 20, 24] rfl)⟩ rfl rfl hl.1 rfl (lv_room (Nat.le_of_ble_eq_true rfl)) dL_law_1152 ⟨(Nat.le_of_ble_eq_true rfl), (Nat.le_of_ble_eq_true rfl)⟩) (fun r_1 hr_1 => ?_)
  obtain rfl : r_1 = (-1) := hr_1
  refine lv_aload_n hx hb dL_law_1155 rfl (lv_at hl 1 rfl) ?_
  refine lv_aload_n hx hb dL_law_1156 rfl (lv_at hl 3 rfl) ?_
  refine lv_iload_n hx hb dL_law_1157 rfl (lv_at hl 0 rfl) ?_
  refine lv_iconst (v := 1) hx hb dL_law_1158 (by decide) ?_
  refine lv_iadd hx hb dL_law_1159 ?_
  refine gz_ni (v := 1) (by decide) ?_
  refine va_sld hx hb hX hbl hbA hS (gz_in (by decide)) dL_law_1160 ?_
  refine gz_ni (v := y1) e1.symm ?_
  refine lv_aload_n hx hb dL_law_1161 rfl (lv_at hl 3 rfl) ?_
  refine lv_iload_n hx hb dL_law_1162 rfl (lv_at hl 0 rfl) ?_
  refine lv_iconst (v := 2) hx hb dL_law_1163 (by decide) ?_
  refine lv_iadd hx hb dL_law_1164 ?_
  refine gz_ni (v := 2) (by decide) ?_
  refine va_sld hx hb hX hbl hbA hS (gz_in (by decide)) dL_law_1165 ?_
  refine gz_ni (v := y2) e2.symm ?_
  refine lv_aload_n hx hb dL_law_1166 rfl (lv_at hl 3 rfl) ?_
  refine lv_iload_n hx hb dL_law_1167 rfl (lv_at hl 0 rfl) ?_
  refine lv_iconst (v := 3) hx hb dL_law_1168 (by decide) ?_
  refine lv_iadd hx hb dL_law_1169 ?_
  refine gz_ni (v := 3) (by decide) ?_
  refine va_sld hx hb hX hbl hbA hS (gz_in (by decide)) dL_law_1170 ?_
  refine gz_ni (v := y3) e3.symm ?_
  refine lv_aload_n hx hb dL_law_1171 rfl (lv_at hl 3 rfl) ?_
  refine lv_iload_n hx hb dL_law_1172 rfl (lv_at hl 0 rfl) ?_
  refine lv_iconst (v := 4) hx hb dL_law_1173 (by decide) ?_
  refine lv_iadd hx hb dL_law_1174 ?_
  refine gz_ni (v := 4) (by decide) ?_
  refine va_sld hx hb hX hbl hbA hS (gz_in (by decide)) dL_law_1175 ?_
  refine gz_ni (v := y4) e4.symm ?_
  refine vp_callSi (W.runV (As := [.int y1, .int y2, .int y3, .int y4]) (rest := [.int (-1)]) ⟨hx, hb, hml, hown, hts⟩ (m_gusts l G k sa q1 z y1 y2 y3 y4) (cwV 4 hts g_L_146_m_gusts rfl rfl rfl (by decide +kernel) ⟨(Nat.le_of_ble_eq_true rfl), (Nat.le_of_ble_eq_true rfl)⟩) ⟨gR.bl, va_recv hE.K hP (ci := 11) (q0 := 112) rfl rfl, (gR.pre (wc := [(q1, .inr (11, [.ref (z 0), .int 0, .int 0, .ref (z 3), .ref (z 4), .ref (z 5), .ref (z 6), .ref (z 7), .int 0, .int 0, .int 0, .int 0, .int 0, .int 0, .int 0, .ref (z 15), .int 0, .ref (z 17), .int 0, .ref (z 19), .ref (z 20), .int (-1), .int 0, .ref (z 23), .int (-1), .int (-1), .int (-1), .int 0, .int (-1), .int 0, .ref (z 30), .int 0, .ref (z 32), .int 0, .int 0, .ref (z 35), .ref (z 36), .ref (z 37), .ref (z 38), .long 0, .ref (z 40), .ref (z 41), .ref (z 42), .ref (z 43)])), (z 20, .inl (k 0, 206, .inl (fun _ => 0)))]) hE hP [112, 122] rfl)⟩ rfl rfl hl.1 rfl (lv_room (Nat.le_of_ble_eq_true rfl)) dL_law_1176 ⟨(Nat.le_of_ble_eq_true rfl), (Nat.le_of_ble_eq_true rfl)⟩) (fun r_2 hr_2 => ?_)
  obtain rfl : r_2 = (-1) := hr_2
  refine lv_icmp_eq (tgt := 1253) hx hb dL_law_1179 (by decide) (fun _ => ?_) (fun h9 => absurd rfl h9)
  refine lv_iinc (v := 6) (lv' := [(3, .int 6), (2, .ref q1), (1, .ref q0), (0, .ref b)]) hx hb dL_law_1253 hl (k := 0) rfl (by decide) (by decide) rfl (fun ls hl => ?_)
  refine lv_goto (tgt := 18) hx hb dL_law_1256 (by decide) ?_
  refine lv_iload_n hx hb dL_law_18 rfl (lv_at hl 0 rfl) ?_
  refine lv_aload_n hx hb dL_law_19 rfl (lv_at hl 3 rfl) ?_
  refine va_slen hx hb hX hbl hbA hS dL_law_20 ?_
  refine gz_ni (v := 6) (by decide) ?_
  refine lv_bipush (v := 6) hx hb dL_law_21 (by decide) ?_
  refine lv_isub hx hb dL_law_23 ?_
  refine gz_ni (v := 0) (by decide) ?_
  refine lv_icmp_gt (tgt := 1259) hx hb dL_law_24 (by decide) (fun _ => ?_) (fun h9 => absurd h9 (by decide))
  refine lv_iconst (v := 1) hx hb dL_law_1259 (by decide) ?_
  refine va_forget (fun q hq => by have h9 := hS.2.2 q hq; rw [hAe] at h9; exact h9) ?_
  refine W.widen (k := 600000) (n := 7302250) (Nat.le_of_ble_eq_true rfl) (Nat.le_of_ble_eq_true rfl) ?_
  exact lw_ret hx hb hr hlocks dL_law_1260
set_option maxHeartbeats 4000000 in
set_option maxRecDepth 100000 in
theorem law_count {p : Program} {e : Env} {s : State} {m : MethodId} {below : List Frame} {meth : Method} {c : Code} (l : Launch) (G : va_G) (k : Nat → ClassId) (sa : Nat → Nat) {b : Nat} {xs : Nat → Int32} (C0 : lw_At p s m meth c b 6 xs) (hE : gE G k sa s) {A : Nat → Prop} (hAe : A = fun q => s.heap.size ≤ q) {H : Heap} {locs : List Loc} {ls : Array Slot} (q0 q1 : Nat) (u : Nat → Nat → Nat) (z : Nat → Nat) (hP : va_P G vwCl (ggW k q0 u ++ mmW k q1 z) H) (hD : va_D A (ggW k q0 u ++ mmW k q1 z)) (hS : va_S A s.heap H locs) (hl : lv_has ls 4 [(3, .int 0), (2, .ref q1), (1, .ref q0), (0, .ref b)]) : W p l e room_1 s m #[Value.ref b] below meth c H locs 285 12688 (lw_Z below #[Value.ref b] s) (F0 m 1184 ls []) := by
  obtain ⟨hx, hb, hr, hml, hown, hts, hX, hbl, hlocks, hgv⟩ := id C0
  have hts := hts
  have hA : ∀ q : Nat, s.heap.size ≤ q → A q := by rw [hAe]; exact fun _ h => h
  have hbA : ¬ A b := by rw [hAe]; exact Nat.not_le.mpr hbl
  obtain ⟨y1, e1⟩ : ∃ y : Int32, y = xs (1 : Int32).toNatClampNeg := ⟨_, rfl⟩
  refine lv_aload_n hx hb dL_law_1184 rfl (lv_at hl 2 rfl) ?_
  refine lv_aload_n hx hb dL_law_1185 rfl (lv_at hl 3 rfl) ?_
  refine lv_iload_n hx hb dL_law_1186 rfl (lv_at hl 0 rfl) ?_
  refine lv_iconst (v := 1) hx hb dL_law_1187 (by decide) ?_
  refine lv_iadd hx hb dL_law_1188 ?_
  refine gz_ni (v := 1) (by decide) ?_
  refine va_sld hx hb hX hbl hbA hS (gz_in (by decide)) dL_law_1189 ?_
  refine gz_ni (v := y1) e1.symm ?_
  refine vp_callSi (W.runV (As := [.int y1]) (rest := []) ⟨hx, hb, hml, hown, hts⟩ (c_X10_count l G k sa q0 (u 0) (u 3) y1) (cwV 1 hts g_L_147_c_X10_count rfl rfl rfl (by decide +kernel) ⟨(Nat.le_of_ble_eq_true rfl), (Nat.le_of_ble_eq_true rfl)⟩) ⟨gR.bl, va_recv hE.K hP (ci := 10) (q0 := 0) rfl rfl, (gR.pre (wc := [(q0, .inr (10, [.ref ((u 0) 0), .ref ((u 0) 1), .ref ((u 0) 2), .ref ((u 0) 3), .ref ((u 0) 4), .int 0, .ref ((u 0) 5), .ref ((u 0) 6), .ref ((u 0) 7), .ref ((u 0) 8), .ref ((u 0) 9), .ref ((u 0) 10), .ref ((u 0) 11), .ref ((u 0) 12), .ref ((u 0) 13), .int 0])), ((u 0) 5, .inr (9, [.ref ((u 3) 0), .ref ((u 3) 1), .ref ((u 3) 2), .ref ((u 3) 3), .ref ((u 3) 4), .int 0, .int 0, .int (-1), .int 0])), ((u 3) 0, .inr (0, [.int 0, .int 0, .ref ((u 3) 5), .ref ((u 3) 6), .ref ((u 3) 7), .ref ((u 3) 8)])), ((u 3) 1, .inr (2, [.int 0, .int 0, .long 0, .ref ((u 3) 13), .ref ((u 3) 14), .ref ((u 3) 15), .ref ((u 3) 16)])), ((u 0) 7, .inr (3, [.ref ((u 0) 18), .int 0, .int 0])), ((u 0) 0, .inr (7, [.ref ((u 0) 14), .int 0]))]) hE hP [0, 20, 24, 33, 39, 1] rfl)⟩ rfl rfl hl.1 rfl (lv_room (Nat.le_of_ble_eq_true rfl)) dL_law_1190 ⟨(Nat.le_of_ble_eq_true rfl), (Nat.le_of_ble_eq_true rfl)⟩) (fun r_1 hr_1 => ?_)
  refine lv_aload_n hx hb dL_law_1193 rfl (lv_at hl 1 rfl) ?_
  refine lv_aload_n hx hb dL_law_1194 rfl (lv_at hl 3 rfl) ?_
  refine lv_iload_n hx hb dL_law_1195 rfl (lv_at hl 0 rfl) ?_
  refine lv_iconst (v := 1) hx hb dL_law_1196 (by decide) ?_
  refine lv_iadd hx hb dL_law_1197 ?_
  refine gz_ni (v := 1) (by decide) ?_
  refine va_sld hx hb hX hbl hbA hS (gz_in (by decide)) dL_law_1198 ?_
  refine gz_ni (v := y1) e1.symm ?_
  refine vp_callSi (W.runV (As := [.int y1]) (rest := [.int r_1]) ⟨hx, hb, hml, hown, hts⟩ (m_count l G k sa q1 z y1) (cwV 1 hts g_L_150_m_count rfl rfl rfl (by decide +kernel) ⟨(Nat.le_of_ble_eq_true rfl), (Nat.le_of_ble_eq_true rfl)⟩) ⟨gR.bl, va_recv hE.K hP (ci := 11) (q0 := 112) rfl rfl, (gR.pre (wc := [(q1, .inr (11, [.ref (z 0), .int 0, .int 0, .ref (z 3), .ref (z 4), .ref (z 5), .ref (z 6), .ref (z 7), .int 0, .int 0, .int 0, .int 0, .int 0, .int 0, .int 0, .ref (z 15), .int 0, .ref (z 17), .int 0, .ref (z 19), .ref (z 20), .int (-1), .int 0, .ref (z 23), .int (-1), .int (-1), .int (-1), .int 0, .int (-1), .int 0, .ref (z 30), .int 0, .ref (z 32), .int 0, .int 0, .ref (z 35), .ref (z 36), .ref (z 37), .ref (z 38), .long 0, .ref (z 40), .ref (z 41), .ref (z 42), .ref (z 43)])), (z 20, .inl (k 0, 206, .inl (fun _ => 0)))]) hE hP [112, 122] rfl)⟩ rfl rfl hl.1 rfl (lv_room (Nat.le_of_ble_eq_true rfl)) dL_law_1199 ⟨(Nat.le_of_ble_eq_true rfl), (Nat.le_of_ble_eq_true rfl)⟩) (fun r_2 hr_2 => ?_)
  refine lv_icmp_eq (tgt := 1253) hx hb dL_law_1202 (by decide) (fun _ => ?_) (fun h9 => absurd (gz_ag_count hr_1 hr_2) h9)
  refine lv_iinc (v := 6) (lv' := [(3, .int 6), (2, .ref q1), (1, .ref q0), (0, .ref b)]) hx hb dL_law_1253 hl (k := 0) rfl (by decide) (by decide) rfl (fun ls hl => ?_)
  refine lv_goto (tgt := 18) hx hb dL_law_1256 (by decide) ?_
  refine lv_iload_n hx hb dL_law_18 rfl (lv_at hl 0 rfl) ?_
  refine lv_aload_n hx hb dL_law_19 rfl (lv_at hl 3 rfl) ?_
  refine va_slen hx hb hX hbl hbA hS dL_law_20 ?_
  refine gz_ni (v := 6) (by decide) ?_
  refine lv_bipush (v := 6) hx hb dL_law_21 (by decide) ?_
  refine lv_isub hx hb dL_law_23 ?_
  refine gz_ni (v := 0) (by decide) ?_
  refine lv_icmp_gt (tgt := 1259) hx hb dL_law_24 (by decide) (fun _ => ?_) (fun h9 => absurd h9 (by decide))
  refine lv_iconst (v := 1) hx hb dL_law_1259 (by decide) ?_
  refine va_forget (fun q hq => by have h9 := hS.2.2 q hq; rw [hAe] at h9; exact h9) ?_
  refine W.widen (k := 600000) (n := 7302250) (Nat.le_of_ble_eq_true rfl) (Nat.le_of_ble_eq_true rfl) ?_
  exact lw_ret hx hb hr hlocks dL_law_1260
set_option maxHeartbeats 4000000 in
set_option maxRecDepth 100000 in
theorem law_image {p : Program} {e : Env} {s : State} {m : MethodId} {below : List Frame} {meth : Method} {c : Code} (l : Launch) (G : va_G) (k : Nat → ClassId) (sa : Nat → Nat) {b : Nat} {xs : Nat → Int32} (C0 : lw_At p s m meth c b 6 xs) (hE : gE G k sa s) {A : Nat → Prop} (hAe : A = fun q => s.heap.size ≤ q) {H : Heap} {locs : List Loc} {ls : Array Slot} (q0 q1 : Nat) (u : Nat → Nat → Nat) (z : Nat → Nat) (hP : va_P G vwCl (ggW k q0 u ++ mmW k q1 z) H) (hD : va_D A (ggW k q0 u ++ mmW k q1 z)) (hS : va_S A s.heap H locs) (hl : lv_has ls 4 [(3, .int 0), (2, .ref q1), (1, .ref q0), (0, .ref b)]) : W p l e room_1 s m #[Value.ref b] below meth c H locs 285 12688 (lw_Z below #[Value.ref b] s) (F0 m 1207 ls []) := by
  obtain ⟨hx, hb, hr, hml, hown, hts, hX, hbl, hlocks, hgv⟩ := id C0
  have hts := hts
  have hA : ∀ q : Nat, s.heap.size ≤ q → A q := by rw [hAe]; exact fun _ h => h
  have hbA : ¬ A b := by rw [hAe]; exact Nat.not_le.mpr hbl
  obtain ⟨y1, e1⟩ : ∃ y : Int32, y = xs (1 : Int32).toNatClampNeg := ⟨_, rfl⟩
  refine lv_aload_n hx hb dL_law_1207 rfl (lv_at hl 2 rfl) ?_
  refine lv_aload_n hx hb dL_law_1208 rfl (lv_at hl 3 rfl) ?_
  refine lv_iload_n hx hb dL_law_1209 rfl (lv_at hl 0 rfl) ?_
  refine lv_iconst (v := 1) hx hb dL_law_1210 (by decide) ?_
  refine lv_iadd hx hb dL_law_1211 ?_
  refine gz_ni (v := 1) (by decide) ?_
  refine va_sld hx hb hX hbl hbA hS (gz_in (by decide)) dL_law_1212 ?_
  refine gz_ni (v := y1) e1.symm ?_
  refine gz_i (wc := ([(q0, .inr (10, [.ref ((u 0) 0), .ref ((u 0) 1), .ref ((u 0) 2), .ref ((u 0) 3), .ref ((u 0) 4), .int 0, .ref ((u 0) 5), .ref ((u 0) 6), .ref ((u 0) 7), .ref ((u 0) 8), .ref ((u 0) 9), .ref ((u 0) 10), .ref ((u 0) 11), .ref ((u 0) 12), .ref ((u 0) 13), .int 0])), ((u 0) 6, .inl (k 4, 4, .inr (.inr (.inr (.inr (va_up (va_up (va_up (va_up (fun _ => none) 0 (some ((u 0) 30))) 1 (some ((u 0) 31))) 2 (some ((u 0) 32))) 3 (some ((u 0) 33)))))))), ((u 0) 5, .inr (9, [.ref ((u 3) 0), .ref ((u 3) 1), .ref ((u 3) 2), .ref ((u 3) 3), .ref ((u 3) 4), .int 0, .int 0, .int (-1), .int 0])), ((u 3) 2, .inl (k 0, 10, .inl (fun _ => 0))), ((u 3) 3, .inl (k 0, 10, .inl (fun _ => 0))), ((u 3) 4, .inl (k 0, 10, .inl (fun _ => 0))), ((u 3) 0, .inr (0, [.int 0, .int 0, .ref ((u 3) 5), .ref ((u 3) 6), .ref ((u 3) 7), .ref ((u 3) 8)])), ((u 3) 5, .inl (k 0, 12, .inl (fun _ => 0))), ((u 3) 6, .inl (k 0, 12, .inl (fun _ => 0))), ((u 3) 7, .inl (k 0, 6, .inl (fun _ => 0))), ((u 3) 8, .inr (2, [.int 0, .int 0, .long 0, .ref ((u 3) 9), .ref ((u 3) 10), .ref ((u 3) 11), .ref ((u 3) 12)])), ((u 3) 9, .inl (k 0, 6, .inl (fun _ => 0))), ((u 3) 10, .inl (k 0, 6, .inl (fun _ => 0))), ((u 3) 11, .inl (k 0, 6, .inl (fun _ => 0))), ((u 3) 12, .inl (k 0, 6, .inl (fun _ => 0))), ((u 3) 1, .inr (2, [.int 0, .int 0, .long 0, .ref ((u 3) 13), .ref ((u 3) 14), .ref ((u 3) 15), .ref ((u 3) 16)])), ((u 3) 13, .inl (k 0, 6, .inl (fun _ => 0))), ((u 3) 14, .inl (k 0, 6, .inl (fun _ => 0))), ((u 3) 15, .inl (k 0, 6, .inl (fun _ => 0))), ((u 3) 16, .inl (k 0, 6, .inl (fun _ => 0)))] ++ (worldW k ((u 0) 30) (u 4) ++ (worldW k ((u 0) 31) (u 5) ++ (worldW k ((u 0) 32) (u 6) ++ (worldW k ((u 0) 33) (u 7))))))) (wr := mmW k q1 z) hP hD hS hA [0, 38, 20, 21, 22, 23, 24, 25, 26, 27, 28, 29, 30, 31, 32, 33, 34, 35, 36, 37, 40, 41, 42, 43, 44, 45, 46, 47, 48, 49, 50, 51, 52, 53, 54, 55, 56, 57, 58, 59, 60, 61, 62, 63, 64, 65, 66, 67, 68, 69, 70, 71, 72, 73, 74, 75, 76, 77, 78, 79, 80, 81, 82, 83, 84, 85, 86, 87, 88, 89, 90, 91, 92, 93, 94, 95, 96, 97, 98, 99, 100, 101, 102, 103, 104, 105, 106, 107, 108, 109, 110, 111] [112, 113, 114, 115, 116, 117, 118, 119, 120, 121, 122, 123, 124, 125, 126, 127, 128, 129, 130, 131, 132, 133] rfl rfl (by decide) (by decide) (va_runV (As := [.int y1]) (rest := []) ⟨hx, hb, hml, hown, hts⟩ (c_X10_image l G k sa _ q0 (u 0) (u 3) (u 4) (u 5) (u 6) (u 7) y1) (cwV 1 hts g_L_151_c_X10_image rfl rfl rfl (by decide +kernel) ⟨(Nat.le_of_ble_eq_true rfl), (Nat.le_of_ble_eq_true rfl)⟩) ⟨gP.bl, va_recv hE.K hP (ci := 10) (q0 := 0) rfl rfl, (gP.pre (wc := ([(q0, .inr (10, [.ref ((u 0) 0), .ref ((u 0) 1), .ref ((u 0) 2), .ref ((u 0) 3), .ref ((u 0) 4), .int 0, .ref ((u 0) 5), .ref ((u 0) 6), .ref ((u 0) 7), .ref ((u 0) 8), .ref ((u 0) 9), .ref ((u 0) 10), .ref ((u 0) 11), .ref ((u 0) 12), .ref ((u 0) 13), .int 0])), ((u 0) 6, .inl (k 4, 4, .inr (.inr (.inr (.inr (va_up (va_up (va_up (va_up (fun _ => none) 0 (some ((u 0) 30))) 1 (some ((u 0) 31))) 2 (some ((u 0) 32))) 3 (some ((u 0) 33)))))))), ((u 0) 5, .inr (9, [.ref ((u 3) 0), .ref ((u 3) 1), .ref ((u 3) 2), .ref ((u 3) 3), .ref ((u 3) 4), .int 0, .int 0, .int (-1), .int 0])), ((u 3) 2, .inl (k 0, 10, .inl (fun _ => 0))), ((u 3) 3, .inl (k 0, 10, .inl (fun _ => 0))), ((u 3) 4, .inl (k 0, 10, .inl (fun _ => 0))), ((u 3) 0, .inr (0, [.int 0, .int 0, .ref ((u 3) 5), .ref ((u 3) 6), .ref ((u 3) 7), .ref ((u 3) 8)])), ((u 3) 5, .inl (k 0, 12, .inl (fun _ => 0))), ((u 3) 6, .inl (k 0, 12, .inl (fun _ => 0))), ((u 3) 7, .inl (k 0, 6, .inl (fun _ => 0))), ((u 3) 8, .inr (2, [.int 0, .int 0, .long 0, .ref ((u 3) 9), .ref ((u 3) 10), .ref ((u 3) 11), .ref ((u 3) 12)])), ((u 3) 9, .inl (k 0, 6, .inl (fun _ => 0))), ((u 3) 10, .inl (k 0, 6, .inl (fun _ => 0))), ((u 3) 11, .inl (k 0, 6, .inl (fun _ => 0))), ((u 3) 12, .inl (k 0, 6, .inl (fun _ => 0))), ((u 3) 1, .inr (2, [.int 0, .int 0, .long 0, .ref ((u 3) 13), .ref ((u 3) 14), .ref ((u 3) 15), .ref ((u 3) 16)])), ((u 3) 13, .inl (k 0, 6, .inl (fun _ => 0))), ((u 3) 14, .inl (k 0, 6, .inl (fun _ => 0))), ((u 3) 15, .inl (k 0, 6, .inl (fun _ => 0))), ((u 3) 16, .inl (k 0, 6, .inl (fun _ => 0)))] ++ (worldW k ((u 0) 30) (u 4) ++ (worldW k ((u 0) 31) (u 5) ++ (worldW k ((u 0) 32) (u 6) ++ (worldW k ((u 0) 33) (u 7))))))) hE hP hD [0, 38, 20, 21, 22, 23, 24, 25, 26, 27, 28, 29, 30, 31, 32, 33, 34, 35, 36, 37, 40, 41, 42, 43, 44, 45, 46, 47, 48, 49, 50, 51, 52, 53, 54, 55, 56, 57, 58, 59, 60, 61, 62, 63, 64, 65, 66, 67, 68, 69, 70, 71, 72, 73, 74, 75, 76, 77, 78, 79, 80, 81, 82, 83, 84, 85, 86, 87, 88, 89, 90, 91, 92, 93, 94, 95, 96, 97, 98, 99, 100, 101, 102, 103, 104, 105, 106, 107, 108, 109, 110, 111] rfl (by decide))⟩ rfl rfl hl.1 rfl (lv_room (Nat.le_of_ble_eq_true rfl)) dL_law_1213 ⟨(Nat.le_of_ble_eq_true rfl), (Nat.le_of_ble_eq_true rfl)⟩) (fun r_2 u_1 H locs hr_2 hP hD hS => ?_)
  have hP : va_P G vwCl (mmW k q1 z) H := hP
  have hD : va_D A (mmW k q1 z) := hD
  refine lv_aload_n hx hb dL_law_1216 rfl (lv_at hl 1 rfl) ?_
  refine lv_aload_n hx hb dL_law_1217 rfl (lv_at hl 3 rfl) ?_
  refine lv_iload_n hx hb dL_law_1218 rfl (lv_at hl 0 rfl) ?_
  refine lv_iconst (v := 1) hx hb dL_law_1219 (by decide) ?_
  refine lv_iadd hx hb dL_law_1220 ?_
  refine gz_ni (v := 1) (by decide) ?_
  refine va_sld hx hb hX hbl hbA hS (gz_in (by decide)) dL_law_1221 ?_
  refine gz_ni (v := y1) e1.symm ?_
  refine gz_i (wc := [(q1, .inr (11, [.ref (z 0), .int 0, .int 0, .ref (z 3), .ref (z 4), .ref (z 5), .ref (z 6), .ref (z 7), .int 0, .int 0, .int 0, .int 0, .int 0, .int 0, .int 0, .ref (z 15), .int 0, .ref (z 17), .int 0, .ref (z 19), .ref (z 20), .int (-1), .int 0, .ref (z 23), .int (-1), .int (-1), .int (-1), .int 0, .int (-1), .int 0, .ref (z 30), .int 0, .ref (z 32), .int 0, .int 0, .ref (z 35), .ref (z 36), .ref (z 37), .ref (z 38), .long 0, .ref (z 40), .ref (z 41), .ref (z 42), .ref (z 43)])), (z 20, .inl (k 0, 206, .inl (fun _ => 0))), (z 40, .inl (k 0, 824, .inl (fun _ => 0))), (z 41, .inl (k 0, 4, .inl (fun _ => 0))), (z 42, .inl (k 0, 4, .inl (fun _ => 0))), (z 43, .inl (k 2, 4, .inl (fun _ => 0)))]) (wr := []) hP hD hS hA [0, 10, 18, 19, 20, 21] [] rfl rfl (by decide) (by decide) (va_runV (As := [.int y1]) (rest := [.int r_2]) ⟨hx, hb, hml, hown, hts⟩ (m_image l G k sa _ q1 z y1) (cwV 1 hts g_L_154_m_image rfl rfl rfl (by decide +kernel) ⟨(Nat.le_of_ble_eq_true rfl), (Nat.le_of_ble_eq_true rfl)⟩) ⟨gP.bl, va_recv hE.K hP (ci := 11) (q0 := 0) rfl rfl, (gP.pre (wc := [(q1, .inr (11, [.ref (z 0), .int 0, .int 0, .ref (z 3), .ref (z 4), .ref (z 5), .ref (z 6), .ref (z 7), .int 0, .int 0, .int 0, .int 0, .int 0, .int 0, .int 0, .ref (z 15), .int 0, .ref (z 17), .int 0, .ref (z 19), .ref (z 20), .int (-1), .int 0, .ref (z 23), .int (-1), .int (-1), .int (-1), .int 0, .int (-1), .int 0, .ref (z 30), .int 0, .ref (z 32), .int 0, .int 0, .ref (z 35), .ref (z 36), .ref (z 37), .ref (z 38), .long 0, .ref (z 40), .ref (z 41), .ref (z 42), .ref (z 43)])), (z 20, .inl (k 0, 206, .inl (fun _ => 0))), (z 40, .inl (k 0, 824, .inl (fun _ => 0))), (z 41, .inl (k 0, 4, .inl (fun _ => 0))), (z 42, .inl (k 0, 4, .inl (fun _ => 0))), (z 43, .inl (k 2, 4, .inl (fun _ => 0)))]) hE hP hD [0, 10, 18, 19, 20, 21] rfl (by decide))⟩ rfl rfl hl.1 rfl (lv_room (Nat.le_of_ble_eq_true rfl)) dL_law_1222 ⟨(Nat.le_of_ble_eq_true rfl), (Nat.le_of_ble_eq_true rfl)⟩) (fun r_4 u_3 H locs hr_4 hP hD hS => ?_)
  have hP : va_P G vwCl [] H := hP
  have hD : va_D A [] := hD
  refine lv_icmp_eq (tgt := 1253) hx hb dL_law_1225 (by decide) (fun _ => ?_) (fun h9 => absurd (gz_ag_image hr_2 hr_4) h9)
  refine lv_iinc (v := 6) (lv' := [(3, .int 6), (2, .ref q1), (1, .ref q0), (0, .ref b)]) hx hb dL_law_1253 hl (k := 0) rfl (by decide) (by decide) rfl (fun ls hl => ?_)
  refine lv_goto (tgt := 18) hx hb dL_law_1256 (by decide) ?_
  refine lv_iload_n hx hb dL_law_18 rfl (lv_at hl 0 rfl) ?_
  refine lv_aload_n hx hb dL_law_19 rfl (lv_at hl 3 rfl) ?_
  refine va_slen hx hb hX hbl hbA hS dL_law_20 ?_
  refine gz_ni (v := 6) (by decide) ?_
  refine lv_bipush (v := 6) hx hb dL_law_21 (by decide) ?_
  refine lv_isub hx hb dL_law_23 ?_
  refine gz_ni (v := 0) (by decide) ?_
  refine lv_icmp_gt (tgt := 1259) hx hb dL_law_24 (by decide) (fun _ => ?_) (fun h9 => absurd h9 (by decide))
  refine lv_iconst (v := 1) hx hb dL_law_1259 (by decide) ?_
  refine va_forget (fun q hq => by have h9 := hS.2.2 q hq; rw [hAe] at h9; exact h9) ?_
  refine W.widen (k := 600000) (n := 7302250) (Nat.le_of_ble_eq_true rfl) (Nat.le_of_ble_eq_true rfl) ?_
  exact lw_ret hx hb hr hlocks dL_law_1260
set_option maxHeartbeats 4000000 in
set_option maxRecDepth 100000 in
theorem law_back {p : Program} {e : Env} {s : State} {m : MethodId} {below : List Frame} {meth : Method} {c : Code} (l : Launch) (G : va_G) (k : Nat → ClassId) (sa : Nat → Nat) {b : Nat} {xs : Nat → Int32} (C0 : lw_At p s m meth c b 6 xs) (hE : gE G k sa s) {A : Nat → Prop} (hAe : A = fun q => s.heap.size ≤ q) {H : Heap} {locs : List Loc} {ls : Array Slot} (q0 q1 : Nat) (u : Nat → Nat → Nat) (z : Nat → Nat) (hP : va_P G vwCl (ggW k q0 u ++ mmW k q1 z) H) (hD : va_D A (ggW k q0 u ++ mmW k q1 z)) (hS : va_S A s.heap H locs) (hl : lv_has ls 4 [(3, .int 0), (2, .ref q1), (1, .ref q0), (0, .ref b)]) : W p l e room_1 s m #[Value.ref b] below meth c H locs 285 12688 (lw_Z below #[Value.ref b] s) (F0 m 1230 ls []) := by
  obtain ⟨hx, hb, hr, hml, hown, hts, hX, hbl, hlocks, hgv⟩ := id C0
  have hts := hts
  have hA : ∀ q : Nat, s.heap.size ≤ q → A q := by rw [hAe]; exact fun _ h => h
  have hbA : ¬ A b := by rw [hAe]; exact Nat.not_le.mpr hbl
  obtain ⟨y1, e1⟩ : ∃ y : Int32, y = xs (1 : Int32).toNatClampNeg := ⟨_, rfl⟩
  refine lv_aload_n hx hb dL_law_1230 rfl (lv_at hl 2 rfl) ?_
  refine lv_aload_n hx hb dL_law_1231 rfl (lv_at hl 3 rfl) ?_
  refine lv_iload_n hx hb dL_law_1232 rfl (lv_at hl 0 rfl) ?_
  refine lv_iconst (v := 1) hx hb dL_law_1233 (by decide) ?_
  refine lv_iadd hx hb dL_law_1234 ?_
  refine gz_ni (v := 1) (by decide) ?_
  refine va_sld hx hb hX hbl hbA hS (gz_in (by decide)) dL_law_1235 ?_
  refine gz_ni (v := y1) e1.symm ?_
  refine vp_callSi (W.runV (As := [.int y1]) (rest := []) ⟨hx, hb, hml, hown, hts⟩ (c_X10_back l G k sa q0 (u 0) (u 4) (u 5) (u 6) (u 7) y1) (cwV 1 hts g_L_155_c_X10_back rfl rfl rfl (by decide +kernel) ⟨(Nat.le_of_ble_eq_true rfl), (Nat.le_of_ble_eq_true rfl)⟩) ⟨gR.bl, va_recv hE.K hP (ci := 10) (q0 := 0) rfl rfl, (gR.pre (wc := [(q0, .inr (10, [.ref ((u 0) 0), .ref ((u 0) 1), .ref ((u 0) 2), .ref ((u 0) 3), .ref ((u 0) 4), .int 0, .ref ((u 0) 5), .ref ((u 0) 6), .ref ((u 0) 7), .ref ((u 0) 8), .ref ((u 0) 9), .ref ((u 0) 10), .ref ((u 0) 11), .ref ((u 0) 12), .ref ((u 0) 13), .int 0])), ((u 0) 6, .inl (k 4, 4, .inr (.inr (.inr (.inr (va_up (va_up (va_up (va_up (fun _ => none) 0 (some ((u 0) 30))) 1 (some ((u 0) 31))) 2 (some ((u 0) 32))) 3 (some ((u 0) 33)))))))), ((u 0) 30, .inr (9, [.ref ((u 4) 0), .ref ((u 4) 1), .ref ((u 4) 2), .ref ((u 4) 3), .ref ((u 4) 4), .int 0, .int 0, .int (-1), .int 0])), ((u 0) 31, .inr (9, [.ref ((u 5) 0), .ref ((u 5) 1), .ref ((u 5) 2), .ref ((u 5) 3), .ref ((u 5) 4), .int 0, .int 0, .int (-1), .int 0])), ((u 0) 32, .inr (9, [.ref ((u 6) 0), .ref ((u 6) 1), .ref ((u 6) 2), .ref ((u 6) 3), .ref ((u 6) 4), .int 0, .int 0, .int (-1), .int 0])), ((u 0) 33, .inr (9, [.ref ((u 7) 0), .ref ((u 7) 1), .ref ((u 7) 2), .ref ((u 7) 3), .ref ((u 7) 4), .int 0, .int 0, .int (-1), .int 0]))]) hE hP [0, 38, 40, 58, 76, 94] rfl)⟩ rfl rfl hl.1 rfl (lv_room (Nat.le_of_ble_eq_true rfl)) dL_law_1236 ⟨(Nat.le_of_ble_eq_true rfl), (Nat.le_of_ble_eq_true rfl)⟩) (fun r_1 hr_1 => ?_)
  obtain rfl : r_1 = (-1) := hr_1
  refine lv_aload_n hx hb dL_law_1239 rfl (lv_at hl 1 rfl) ?_
  refine lv_aload_n hx hb dL_law_1240 rfl (lv_at hl 3 rfl) ?_
  refine lv_iload_n hx hb dL_law_1241 rfl (lv_at hl 0 rfl) ?_
  refine lv_iconst (v := 1) hx hb dL_law_1242 (by decide) ?_
  refine lv_iadd hx hb dL_law_1243 ?_
  refine gz_ni (v := 1) (by decide) ?_
  refine va_sld hx hb hX hbl hbA hS (gz_in (by decide)) dL_law_1244 ?_
  refine gz_ni (v := y1) e1.symm ?_
  refine vp_callSi (W.runV (As := [.int y1]) (rest := [.int (-1)]) ⟨hx, hb, hml, hown, hts⟩ (m_back l G k sa q1 z y1) (cwV 1 hts g_L_158_m_back rfl rfl rfl (by decide +kernel) ⟨(Nat.le_of_ble_eq_true rfl), (Nat.le_of_ble_eq_true rfl)⟩) ⟨gR.bl, va_recv hE.K hP (ci := 11) (q0 := 112) rfl rfl, (gR.pre (wc := [(q1, .inr (11, [.ref (z 0), .int 0, .int 0, .ref (z 3), .ref (z 4), .ref (z 5), .ref (z 6), .ref (z 7), .int 0, .int 0, .int 0, .int 0, .int 0, .int 0, .int 0, .ref (z 15), .int 0, .ref (z 17), .int 0, .ref (z 19), .ref (z 20), .int (-1), .int 0, .ref (z 23), .int (-1), .int (-1), .int (-1), .int 0, .int (-1), .int 0, .ref (z 30), .int 0, .ref (z 32), .int 0, .int 0, .ref (z 35), .ref (z 36), .ref (z 37), .ref (z 38), .long 0, .ref (z 40), .ref (z 41), .ref (z 42), .ref (z 43)])), (z 43, .inl (k 2, 4, .inl (fun _ => 0)))]) hE hP [112, 133] rfl)⟩ rfl rfl hl.1 rfl (lv_room (Nat.le_of_ble_eq_true rfl)) dL_law_1245 ⟨(Nat.le_of_ble_eq_true rfl), (Nat.le_of_ble_eq_true rfl)⟩) (fun r_2 hr_2 => ?_)
  obtain rfl : r_2 = (-1) := hr_2
  refine lv_icmp_eq (tgt := 1253) hx hb dL_law_1248 (by decide) (fun _ => ?_) (fun h9 => absurd rfl h9)
  refine lv_iinc (v := 6) (lv' := [(3, .int 6), (2, .ref q1), (1, .ref q0), (0, .ref b)]) hx hb dL_law_1253 hl (k := 0) rfl (by decide) (by decide) rfl (fun ls hl => ?_)
  refine lv_goto (tgt := 18) hx hb dL_law_1256 (by decide) ?_
  refine lv_iload_n hx hb dL_law_18 rfl (lv_at hl 0 rfl) ?_
  refine lv_aload_n hx hb dL_law_19 rfl (lv_at hl 3 rfl) ?_
  refine va_slen hx hb hX hbl hbA hS dL_law_20 ?_
  refine gz_ni (v := 6) (by decide) ?_
  refine lv_bipush (v := 6) hx hb dL_law_21 (by decide) ?_
  refine lv_isub hx hb dL_law_23 ?_
  refine gz_ni (v := 0) (by decide) ?_
  refine lv_icmp_gt (tgt := 1259) hx hb dL_law_24 (by decide) (fun _ => ?_) (fun h9 => absurd h9 (by decide))
  refine lv_iconst (v := 1) hx hb dL_law_1259 (by decide) ?_
  refine va_forget (fun q hq => by have h9 := hS.2.2 q hq; rw [hAe] at h9; exact h9) ?_
  refine W.widen (k := 600000) (n := 7302250) (Nat.le_of_ble_eq_true rfl) (Nat.le_of_ble_eq_true rfl) ?_
  exact lw_ret hx hb hr hlocks dL_law_1260
set_option maxHeartbeats 4000000 in
set_option maxRecDepth 100000 in
theorem law_none {p : Program} {e : Env} {s : State} {m : MethodId} {below : List Frame} {meth : Method} {c : Code} (l : Launch) (G : va_G) (k : Nat → ClassId) (sa : Nat → Nat) {b : Nat} {xs : Nat → Int32} (C0 : lw_At p s m meth c b 6 xs) (hE : gE G k sa s) {A : Nat → Prop} (hAe : A = fun q => s.heap.size ≤ q) {H : Heap} {locs : List Loc} {ls : Array Slot} (q0 q1 : Nat) (u : Nat → Nat → Nat) (z : Nat → Nat) (hP : va_P G vwCl (ggW k q0 u ++ mmW k q1 z) H) (hD : va_D A (ggW k q0 u ++ mmW k q1 z)) (hS : va_S A s.heap H locs) (hl : lv_has ls 4 [(3, .int 0), (2, .ref q1), (1, .ref q0), (0, .ref b)]) : W p l e room_1 s m #[Value.ref b] below meth c H locs 285 12688 (lw_Z below #[Value.ref b] s) (F0 m 1253 ls []) := by
  obtain ⟨hx, hb, hr, hml, hown, hts, hX, hbl, hlocks, hgv⟩ := id C0
  have hts := hts
  have hA : ∀ q : Nat, s.heap.size ≤ q → A q := by rw [hAe]; exact fun _ h => h
  have hbA : ¬ A b := by rw [hAe]; exact Nat.not_le.mpr hbl
  refine lv_iinc (v := 6) (lv' := [(3, .int 6), (2, .ref q1), (1, .ref q0), (0, .ref b)]) hx hb dL_law_1253 hl (k := 0) rfl (by decide) (by decide) rfl (fun ls hl => ?_)
  refine lv_goto (tgt := 18) hx hb dL_law_1256 (by decide) ?_
  refine lv_iload_n hx hb dL_law_18 rfl (lv_at hl 0 rfl) ?_
  refine lv_aload_n hx hb dL_law_19 rfl (lv_at hl 3 rfl) ?_
  refine va_slen hx hb hX hbl hbA hS dL_law_20 ?_
  refine gz_ni (v := 6) (by decide) ?_
  refine lv_bipush (v := 6) hx hb dL_law_21 (by decide) ?_
  refine lv_isub hx hb dL_law_23 ?_
  refine gz_ni (v := 0) (by decide) ?_
  refine lv_icmp_gt (tgt := 1259) hx hb dL_law_24 (by decide) (fun _ => ?_) (fun h9 => absurd h9 (by decide))
  refine lv_iconst (v := 1) hx hb dL_law_1259 (by decide) ?_
  refine va_forget (fun q hq => by have h9 := hS.2.2 q hq; rw [hAe] at h9; exact h9) ?_
  refine W.widen (k := 600000) (n := 7302250) (Nat.le_of_ble_eq_true rfl) (Nat.le_of_ble_eq_true rfl) ?_
  exact lw_ret hx hb hr hlocks dL_law_1260
