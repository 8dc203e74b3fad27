set_option maxHeartbeats 4000000 in
set_option maxRecDepth 100000 in
/-- the loop over the script, from its head -/
theorem law_loop {p : Program} {e : Env} {s : State} {m : MethodId} {below : List Frame} {meth : Method} {c : Code} (l : Launch) (G : va_G) (k : Nat → ClassId) (sa : Nat → Nat) {b L : Nat} {xs : Nat → Int32} (hL : L ≤ 3072) (C0 : lw_At p s m meth c b L xs) (hE : gE G k sa s) {A : Nat → Prop} (hAe : A = fun q => s.heap.size ≤ q) (hZ : gZ sa A s s.heap) (ad am : Nat → Nat) : ∀ (n : Nat) (S T : gS) (i : Int32) (H : Heap) (locs : List Loc) (ls : Array Slot), gGI ad S → gGM T → gLk S T → gIv 0 3072 i → 3072 - i.toInt < (n : Int) → va_P G vwCl (ggW k ad S ++ mmW k am T) H → va_D A (ggW k ad S ++ mmW k am T) → va_S A s.heap H locs → lv_has ls 4 [(3, .int i), (2, .ref (am 0)), (1, .ref (ad 100)), (0, .ref b)] → W p l e room_1 s m #[Value.ref b] below meth c H locs 285 12688 (lw_Z below #[Value.ref b] s) (F0 m 18 ls []) := by
  obtain ⟨hx, hb, hr, hml, hown, hts, hX, hbl, hlocks, hgv⟩ := id C0
  have hA : ∀ q : Nat, s.heap.size ≤ q → A q := by rw [hAe]; exact fun _ h => h
  have hbA : ¬ A b := by rw [hAe]; exact Nat.not_le.mpr hbl
  intro n
  induction n with
  | zero =>
    intro S T i H locs ls hG hT hLk hi hn
    exact absurd hn (by have z := hi.2; omega)
  | succ n ih =>
    intro S T i H locs ls hG hT hLk hi hn hP hD hS hl
    have hi1 := hi.1
    have hi2 := hi.2
    have z6 : (6 : Int32).toInt = 6 := by decide
    refine lv_iload_n hx hb dL_law_18 rfl (lv_at hl 0 rfl) ?_
    refine lv_aload_n hx hb dL_law_19 rfl (lv_at hl 3 rfl) ?_
    refine va_slen hx hb hX hbl hbA hS dL_law_20 ?_
    refine lv_topi (fun y1 e1 => ?_)
    have i1 : y1.toInt = (L : Int) := by rw [e1]; exact Int32.toInt_ofNat_of_lt (by omega)
    have g1 : gIv 0 3072 y1 := ⟨by omega, by omega⟩
    refine lv_bipush (v := 6) hx hb dL_law_21 (by decide) ?_
    refine lv_isub hx hb dL_law_23 ?_
    refine lv_topi (fun y2 e2 => ?_)
    have i2 : y2.toInt = y1.toInt - (6 : Int32).toInt := gI_dif e2 g1 (gIv_of (a := 6) (b := 6) (x := 6) (by decide)) (by decide)
    rw [z6] at i2
    refine lv_icmp_gt (tgt := 1259) hx hb dL_law_24 (by decide) (fun c1 => ?_) (fun c1 => ?_)
    · refine lv_iconst (v := 1) hx hb dL_law_1259 (by decide) ?_
      refine va_forget (fun q hq => by have h9 := hS.2.2 q hq; rw [hAe] at h9; exact h9) ?_
      refine W.widen (k := 600000) (n := 7302250) (Nat.le_of_ble_eq_true rfl) (Nat.le_of_ble_eq_true rfl) ?_
      exact lw_ret hx hb hr hlocks dL_law_1260
    · have c3 : i.toInt ≤ y2.toInt := Int.not_lt.mp (fun q => c1 (gz_lt.mpr q))
      have hiL : i.toInt + 6 ≤ (L : Int) := by omega
      have hi9 : gIv 0 3066 i := ⟨hi1, by omega⟩
      have hK : ∀ (S' T' : gS) (H' : Heap) (locs' : List Loc), gGI ad S' → gGM T' → gLk S' T' → va_P G vwCl (ggW k ad S' ++ mmW k am T') H' → va_D A (ggW k ad S' ++ mmW k am T') → va_S A s.heap H' locs' → W p l e room_1 s m #[Value.ref b] below meth c H' locs' 285 12688 (lw_Z below #[Value.ref b] s) (F0 m 1253 ls []) := by
        intro S' T' H' locs' hG' hT' hLk' hP' hD' hS'
        obtain ⟨j, ej⟩ : ∃ y : Int32, y = i + 6 := ⟨_, rfl⟩
        have ij : j.toInt = i.toInt + 6 := gI_add ej hi9 (by decide) (by decide)
        refine lv_iinc (v := j) (lv' := [(3, .int j), (2, .ref (am 0)), (1, .ref (ad 100)), (0, .ref b)]) hx hb dL_law_1253 hl (k := 0) rfl (by rw [ej]; rfl) (by decide) rfl (fun ls hl => ?_)
        refine lv_goto (tgt := 18) hx hb dL_law_1256 (by decide) ?_
        exact ih S' T' j H' locs' ls hG' hT' hLk' ⟨by omega, by omega⟩ (by omega) hP' hD' hS' hl
      refine lv_aload_n hx hb dL_law_27 rfl (lv_at hl 3 rfl) ?_
      refine lv_iload_n hx hb dL_law_28 rfl (lv_at hl 0 rfl) ?_
      refine va_sld hx hb hX hbl hbA hS (vp_in_iff.mpr ⟨hi1, by omega⟩) dL_law_29 ?_
      refine lv_bipush (v := 63) hx hb dL_law_30 (by decide) ?_
      refine lv_iand hx hb dL_law_32 ?_
      refine lv_topi (fun y ey => ?_)
      rcases gz_tab_0_34 y with hy | h0 | h0 | h0 | h0 | h0 | h0 | h0 | h0 | h0 | h0 | h0 | h0 | h0 | h0 | h0 | h0 | h0 | h0 | h0 | h0 | h0 | h0 | h0 | h0 | h0 | h0 | h0 | h0 | h0 | h0 | h0 | h0 | h0 | h0 | h0
      · refine lv_tableOut (tgt := 1253) hx hb dL_law_33 hy (by decide) ?_
        exact hK S T H locs hG hT hLk hP hD hS
      · subst h0
        refine lv_tableIn (off := 155) (tgt := 188) hx hb dL_law_33 (by decide) (by decide) (by decide) (by decide) ?_
        exact law_feed l G k sa C0 hE hAe hZ ad am S T hG hT hLk i hi9 hiL hP hD hS hl hK
      · subst h0
        refine lv_tableIn (off := 218) (tgt := 251) hx hb dL_law_33 (by decide) (by decide) (by decide) (by decide) ?_
        exact law_end l G k sa C0 hE hAe hZ ad am S T hG hT hLk i hi9 hiL hP hD hS hl hK
      · subst h0
        refine lv_tableIn (off := 241) (tgt := 274) hx hb dL_law_33 (by decide) (by decide) (by decide) (by decide) ?_
        exact law_country l G k sa C0 hE hAe hZ ad am S T hG hT hLk i hi9 hiL hP hD hS hl hK
      · subst h0
        refine lv_tableIn (off := 254) (tgt := 287) hx hb dL_law_33 (by decide) (by decide) (by decide) (by decide) ?_
        exact law_rule l G k sa C0 hE hAe hZ ad am S T hG hT hLk i hi9 hiL hP hD hS hl hK
      · subst h0
        refine lv_tableIn (off := 267) (tgt := 300) hx hb dL_law_33 (by decide) (by decide) (by decide) (by decide) ?_
        exact law_force l G k sa C0 hE hAe hZ ad am S T hG hT hLk i hi9 hiL hP hD hS hl hK
      · subst h0
        refine lv_tableIn (off := 290) (tgt := 323) hx hb dL_law_33 (by decide) (by decide) (by decide) (by decide) ?_
        exact law_person l G k sa C0 hE hAe hZ ad am S T hG hT hLk i hi9 hiL hP hD hS hl hK
      · subst h0
        refine lv_tableIn (off := 323) (tgt := 356) hx hb dL_law_33 (by decide) (by decide) (by decide) (by decide) ?_
        exact law_wind l G k sa C0 hE hAe hZ ad am S T hG hT hLk i hi9 hiL hP hD hS hl hK
      · subst h0
        refine lv_tableIn (off := 356) (tgt := 389) hx hb dL_law_33 (by decide) (by decide) (by decide) (by decide) ?_
        exact law_gateIn l G k sa C0 hE hAe hZ ad am S T hG hT hLk i hi9 hiL hP hD hS hl hK
      · subst h0
        refine lv_tableIn (off := 379) (tgt := 412) hx hb dL_law_33 (by decide) (by decide) (by decide) (by decide) ?_
        exact law_hour l G k sa C0 hE hAe hZ ad am S T hG hT hLk i hi9 hiL hP hD hS hl hK
      · subst h0
        refine lv_tableIn (off := 392) (tgt := 425) hx hb dL_law_33 (by decide) (by decide) (by decide) (by decide) ?_
        exact law_tell l G k sa C0 hE hAe hZ ad am S T hG hT hLk i hi9 hiL hP hD hS hl hK
      · subst h0
        refine lv_tableIn (off := 425) (tgt := 458) hx hb dL_law_33 (by decide) (by decide) (by decide) (by decide) ?_
        exact law_save l G k sa C0 hE hAe hZ ad am S T hG hT hLk i hi9 hiL hP hD hS hl hK
      · subst h0
        refine lv_tableIn (off := 458) (tgt := 491) hx hb dL_law_33 (by decide) (by decide) (by decide) (by decide) ?_
        exact law_carry l G k sa C0 hE hAe hZ ad am S T hG hT hLk i hi9 hiL hP hD hS hl hK
      · subst h0
        refine lv_tableIn (off := 491) (tgt := 524) hx hb dL_law_33 (by decide) (by decide) (by decide) (by decide) ?_
        exact law_gate l G k sa C0 hE hAe hZ ad am S T hG hT hLk i hi9 hiL hP hD hS hl hK
      · subst h0
        refine lv_tableIn (off := 514) (tgt := 547) hx hb dL_law_33 (by decide) (by decide) (by decide) (by decide) ?_
        exact law_undo l G k sa C0 hE hAe hZ ad am S T hG hT hLk i hi9 hiL hP hD hS hl hK
      · subst h0
        refine lv_tableIn (off := 527) (tgt := 560) hx hb dL_law_33 (by decide) (by decide) (by decide) (by decide) ?_
        exact law_ahead l G k sa C0 hE hAe hZ ad am S T hG hT hLk i hi9 hiL hP hD hS hl hK
      · subst h0
        refine lv_tableIn (off := 570) (tgt := 603) hx hb dL_law_33 (by decide) (by decide) (by decide) (by decide) ?_
        exact law_goes l G k sa C0 hE hAe hZ ad am S T hG hT hLk i hi9 hiL hP hD hS hl hK
      · subst h0
        refine lv_tableIn (off := 593) (tgt := 626) hx hb dL_law_33 (by decide) (by decide) (by decide) (by decide) ?_
        exact law_down l G k sa C0 hE hAe hZ ad am S T hG hT hLk i hi9 hiL hP hD hS hl hK
      · subst h0
        refine lv_tableIn (off := 626) (tgt := 659) hx hb dL_law_33 (by decide) (by decide) (by decide) (by decide) ?_
        exact law_gone l G k sa C0 hE hAe hZ ad am S T hG hT hLk i hi9 hiL hP hD hS hl hK
      · subst h0
        refine lv_tableIn (off := 669) (tgt := 702) hx hb dL_law_33 (by decide) (by decide) (by decide) (by decide) ?_
        exact law_timing l G k sa C0 hE hAe hZ ad am S T hG hT hLk i hi9 hiL hP hD hS hl hK
      · subst h0
        refine lv_tableIn (off := 702) (tgt := 735) hx hb dL_law_33 (by decide) (by decide) (by decide) (by decide) ?_
        exact law_had l G k sa C0 hE hAe hZ ad am S T hG hT hLk i hi9 hiL hP hD hS hl hK
      · subst h0
        refine lv_tableIn (off := 745) (tgt := 778) hx hb dL_law_33 (by decide) (by decide) (by decide) (by decide) ?_
        exact law_tangle l G k sa C0 hE hAe hZ ad am S T hG hT hLk i hi9 hiL hP hD hS hl hK
      · subst h0
        refine lv_tableIn (off := 768) (tgt := 801) hx hb dL_law_33 (by decide) (by decide) (by decide) (by decide) ?_
        exact law_flock l G k sa C0 hE hAe hZ ad am S T hG hT hLk i hi9 hiL hP hD hS hl hK
      · subst h0
        refine lv_tableIn (off := 801) (tgt := 834) hx hb dL_law_33 (by decide) (by decide) (by decide) (by decide) ?_
        exact law_bestGate l G k sa C0 hE hAe hZ ad am S T hG hT hLk i hi9 hiL hP hD hS hl hK
      · subst h0
        refine lv_tableIn (off := 834) (tgt := 867) hx hb dL_law_33 (by decide) (by decide) (by decide) (by decide) ?_
        exact law_bestWinds l G k sa C0 hE hAe hZ ad am S T hG hT hLk i hi9 hiL hP hD hS hl hK
      · subst h0
        refine lv_tableIn (off := 867) (tgt := 900) hx hb dL_law_33 (by decide) (by decide) (by decide) (by decide) ?_
        exact law_rests l G k sa C0 hE hAe hZ ad am S T hG hT hLk i hi9 hiL hP hD hS hl hK
      · subst h0
        refine lv_tableIn (off := 920) (tgt := 953) hx hb dL_law_33 (by decide) (by decide) (by decide) (by decide) ?_
        exact law_ring l G k sa C0 hE hAe hZ ad am S T hG hT hLk i hi9 hiL hP hD hS hl hK
      · subst h0
        refine lv_tableIn (off := 943) (tgt := 976) hx hb dL_law_33 (by decide) (by decide) (by decide) (by decide) ?_
        exact law_pence l G k sa C0 hE hAe hZ ad am S T hG hT hLk i hi9 hiL hP hD hS hl hK
      · subst h0
        refine lv_tableIn (off := 976) (tgt := 1009) hx hb dL_law_33 (by decide) (by decide) (by decide) (by decide) ?_
        exact law_note l G k sa C0 hE hAe hZ ad am S T hG hT hLk i hi9 hiL hP hD hS hl hK
      · subst h0
        refine lv_tableIn (off := 1019) (tgt := 1052) hx hb dL_law_33 (by decide) (by decide) (by decide) (by decide) ?_
        exact law_ruled l G k sa C0 hE hAe hZ ad am S T hG hT hLk i hi9 hiL hP hD hS hl hK
      · subst h0
        refine lv_tableIn (off := 1042) (tgt := 1075) hx hb dL_law_33 (by decide) (by decide) (by decide) (by decide) ?_
        exact law_look l G k sa C0 hE hAe hZ ad am S T hG hT hLk i hi9 hiL hP hD hS hl hK
      · subst h0
        refine lv_tableIn (off := 1075) (tgt := 1108) hx hb dL_law_33 (by decide) (by decide) (by decide) (by decide) ?_
        exact law_seed l G k sa C0 hE hAe hZ ad am S T hG hT hLk i hi9 hiL hP hD hS hl hK
      · subst h0
        refine lv_tableIn (off := 1098) (tgt := 1131) hx hb dL_law_33 (by decide) (by decide) (by decide) (by decide) ?_
        exact law_gusts l G k sa C0 hE hAe hZ ad am S T hG hT hLk i hi9 hiL hP hD hS hl hK
      · subst h0
        refine lv_tableIn (off := 1151) (tgt := 1184) hx hb dL_law_33 (by decide) (by decide) (by decide) (by decide) ?_
        exact law_count l G k sa C0 hE hAe hZ ad am S T hG hT hLk i hi9 hiL hP hD hS hl hK
      · subst h0
        refine lv_tableIn (off := 1174) (tgt := 1207) hx hb dL_law_33 (by decide) (by decide) (by decide) (by decide) ?_
        exact law_image l G k sa C0 hE hAe hZ ad am S T hG hT hLk i hi9 hiL hP hD hS hl hK
      · subst h0
        refine lv_tableIn (off := 1197) (tgt := 1230) hx hb dL_law_33 (by decide) (by decide) (by decide) (by decide) ?_
        exact law_back l G k sa C0 hE hAe hZ ad am S T hG hT hLk i hi9 hiL hP hD hS hl hK
