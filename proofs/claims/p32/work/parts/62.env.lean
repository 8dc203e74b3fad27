theorem gz_arr {s : State} {b : Nat} {ty : FieldType} (h : (Cond.arrayClass ty).before #[Value.ref b] s = true) (hp : (match ty with | .object _ => false | _ => true) = true) : ∃ cA : ClassId, ArrOfT s cA ty ∧ va_RA s cA ty := by
  obtain ⟨cA, kA, comp, h1, h2, h3⟩ := Cond.arrayClass_spec h
  refine ⟨cA, fun n z => ⟨fun k h => (by cases h), kA, h2, comp, h3⟩, ?_⟩
  cases ty with
  | object C => simp at hp
  | _ => exact h1
theorem gz_arrO {s : State} {b : Nat} {C : String} (h : (Cond.arrayOver (.object C)).before #[Value.ref b] s = true) : ∃ cA : ClassId, ArrOfT s cA (.object C) ∧ va_RA s cA (.object C) := by
  obtain ⟨comp, cA, kA, hcomp, -, hkA, hkind, hname⟩ := Cond.arrayOver_spec h
  exact ⟨cA, fun N z => ⟨(fun k h => by cases h), kA, hkA, comp, hkind⟩, kA, comp, hkA, hkind, hcomp, hname⟩
theorem lew_0 : (.instantiable RX0 6 : Cond) ∈ lw_tbl := (List.mem_append_right _ (List.mem_append_left _ (List.mem_of_getElem? (l := tables_1_1) (i := 131) (by decide +kernel))))
theorem lew_1 : (.instantiable RX1 1 : Cond) ∈ lw_tbl := (List.mem_append_right _ (List.mem_append_left _ (List.mem_of_getElem? (l := tables_1_1) (i := 47) (by decide +kernel))))
theorem lew_2 : (.instantiable RX2 7 : Cond) ∈ lw_tbl := (List.mem_append_right _ (List.mem_append_left _ (List.mem_of_getElem? (l := tables_1_1) (i := 137) (by decide +kernel))))
theorem lew_3 : (.instantiable RX3 3 : Cond) ∈ lw_tbl := (List.mem_append_right _ (List.mem_append_right _ (List.mem_append_left _ (List.mem_of_getElem? (l := tables_1_2) (i := 27) (by decide +kernel)))))
theorem lew_4 : (.instantiable RX4 10 : Cond) ∈ lw_tbl := (List.mem_append_right _ (List.mem_append_right _ (List.mem_append_left _ (List.mem_of_getElem? (l := tables_1_2) (i := 47) (by decide +kernel)))))
theorem lew_5 : (.instantiable RX5 6 : Cond) ∈ lw_tbl := (List.mem_append_right _ (List.mem_append_left _ (List.mem_of_getElem? (l := tables_1_1) (i := 92) (by decide +kernel))))
theorem lew_6 : (.instantiable RX6 3 : Cond) ∈ lw_tbl := (List.mem_append_right _ (List.mem_append_left _ (List.mem_of_getElem? (l := tables_1_1) (i := 86) (by decide +kernel))))
theorem lew_7 : (.instantiable RX7 2 : Cond) ∈ lw_tbl := (List.mem_append_right _ (List.mem_append_left _ (List.mem_of_getElem? (l := tables_1_1) (i := 30) (by decide +kernel))))
theorem lew_8 : (.instantiable RX8 6 : Cond) ∈ lw_tbl := (List.mem_append_right _ (List.mem_append_left _ (List.mem_of_getElem? (l := tables_1_1) (i := 53) (by decide +kernel))))
theorem lew_9 : (.instantiable RX9 9 : Cond) ∈ lw_tbl := (List.mem_append_right _ (List.mem_append_left _ (List.mem_of_getElem? (l := tables_1_1) (i := 222) (by decide +kernel))))
theorem lew_10 : (.instantiable RX10 16 : Cond) ∈ lw_tbl := (List.mem_append_right _ (List.mem_append_left _ (List.mem_of_getElem? (l := tables_1_1) (i := 22) (by decide +kernel))))
theorem lew_11 : (.instantiable RX11 44 : Cond) ∈ lw_tbl := (List.mem_append_right _ (List.mem_append_right _ (List.mem_append_right _ (List.mem_append_right _ (List.mem_append_right _ (List.mem_append_left _ (List.mem_of_getElem? (l := tables_1_5) (i := 48) (by decide +kernel))))))))
theorem lew_12 : (.arrayClass .int : Cond) ∈ lw_tbl := (List.mem_append_right _ (List.mem_append_left _ (List.mem_of_getElem? (l := tables_1_1) (i := 45) (by decide +kernel))))
theorem lew_13 : (.arrayClass .long : Cond) ∈ lw_tbl := (List.mem_append_right _ (List.mem_append_left _ (List.mem_of_getElem? (l := tables_1_1) (i := 117) (by decide +kernel))))
theorem lew_14 : (.arrayClass .boolean : Cond) ∈ lw_tbl := (List.mem_append_right _ (List.mem_append_right _ (List.mem_append_right _ (List.mem_append_right _ (List.mem_append_right _ (List.mem_append_left _ (List.mem_of_getElem? (l := tables_1_5) (i := 186) (by decide +kernel))))))))
theorem lew_15 : (.arrayClass .byte : Cond) ∈ lw_tbl := (List.mem_append_right _ (List.mem_append_right _ (List.mem_append_right _ (List.mem_append_left _ (List.mem_of_getElem? (l := tables_1_3) (i := 76) (by decide +kernel))))))
theorem lew_16 : (.arrayOver (.object "GossamerGate$Rule") : Cond) ∈ lw_tbl := (List.mem_append_right _ (List.mem_append_left _ (List.mem_of_getElem? (l := tables_1_1) (i := 220) (by decide +kernel))))
theorem lew_17 : (.arrayOver (.object "GossamerGate$World") : Cond) ∈ lw_tbl := (List.mem_append_right _ (List.mem_append_right _ (List.mem_append_left _ (List.mem_of_getElem? (l := tables_1_2) (i := 25) (by decide +kernel)))))
theorem lew_18 : (.arrayOver (.object "GossamerGate$Day") : Cond) ∈ lw_tbl := (List.mem_append_right _ (List.mem_append_right _ (List.mem_append_left _ (List.mem_of_getElem? (l := tables_1_2) (i := 33) (by decide +kernel)))))
theorem lew_19 : (.laysStatic "java/lang/String" "COMPACT_STRINGS" "Z" : Cond) ∈ lw_tbl := (List.mem_append_right _ (List.mem_append_right _ (List.mem_append_left _ (List.mem_of_getElem? (l := tables_1_2) (i := 210) (by decide +kernel)))))
theorem lew_20 : (.initialized "java/lang/String" : Cond) ∈ lw_tbl := (List.mem_append_right _ (List.mem_append_left _ (List.mem_of_getElem? (l := tables_1_1) (i := 13) (by decide +kernel))))
theorem lew_21 : (.laysStatic "jdk/internal/util/Preconditions" "SIOOBE_FORMATTER" "Ljava/util/function/BiFunction;" : Cond) ∈ lw_tbl := (List.mem_append_right _ (List.mem_append_right _ (List.mem_append_left _ (List.mem_of_getElem? (l := tables_1_2) (i := 226) (by decide +kernel)))))
theorem lew_22 : (.initialized "jdk/internal/util/Preconditions" : Cond) ∈ lw_tbl := (List.mem_append_right _ (List.mem_append_left _ (List.mem_of_getElem? (l := tables_1_1) (i := 15) (by decide +kernel))))
theorem lew_23 : (.methodLinkNest RX10 34 yX0_init RX10 : Cond) ∈ lw_tbl := (List.mem_append_right _ (List.mem_append_left _ (List.mem_of_getElem? (l := tables_1_1) (i := 132) (by decide +kernel))))
theorem lew_24 : (.methodLinkNest RX10 51 yX9_init RX10 : Cond) ∈ lw_tbl := (List.mem_append_right _ (List.mem_append_left _ (List.mem_of_getElem? (l := tables_1_1) (i := 223) (by decide +kernel))))
theorem lew_25 : (.methodLinkNest RX10 9 yX7_init RX10 : Cond) ∈ lw_tbl := (List.mem_append_right _ (List.mem_append_left _ (List.mem_of_getElem? (l := tables_1_1) (i := 31) (by decide +kernel))))
theorem lew_26 : (.methodLinkNest RX10 98 yX5_init RX10 : Cond) ∈ lw_tbl := (List.mem_append_right _ (List.mem_append_right _ (List.mem_append_left _ (List.mem_of_getElem? (l := tables_1_2) (i := 88) (by decide +kernel)))))
theorem lew_27 : (.methodLinkNest RX0 30 yX2_init RX10 : Cond) ∈ lw_tbl := (List.mem_append_right _ (List.mem_append_left _ (List.mem_of_getElem? (l := tables_1_1) (i := 138) (by decide +kernel))))
theorem lew_28 : (.methodLinkNest RX3 22 yX2_init RX10 : Cond) ∈ lw_tbl := (List.mem_append_right _ (List.mem_append_right _ (List.mem_append_left _ (List.mem_of_getElem? (l := tables_1_2) (i := 34) (by decide +kernel)))))
theorem lew_29 : (.methodLinkNest RX4 159 yX10_outside RX10 : Cond) ∈ lw_tbl := (List.mem_append_right _ (List.mem_append_right _ (List.mem_append_right _ (List.mem_append_right _ (List.mem_append_left _ (List.mem_of_getElem? (l := tables_1_4) (i := 73) (by decide +kernel)))))))
theorem lew_30 : (.methodLinkNest RX4 19 yX2_init RX10 : Cond) ∈ lw_tbl := (List.mem_append_right _ (List.mem_append_right _ (List.mem_append_left _ (List.mem_of_getElem? (l := tables_1_2) (i := 53) (by decide +kernel)))))
theorem lew_31 : (.methodLinkNest RX6 11 yX5_init RX10 : Cond) ∈ lw_tbl := (List.mem_append_right _ (List.mem_append_left _ (List.mem_of_getElem? (l := tables_1_1) (i := 93) (by decide +kernel))))
theorem lew_32 : (.methodLinkNest RX8 66 yX10_outside RX10 : Cond) ∈ lw_tbl := (List.mem_append_right _ (List.mem_append_right _ (List.mem_append_right _ (List.mem_append_left _ (List.mem_of_getElem? (l := tables_1_3) (i := 22) (by decide +kernel))))))
theorem lew_33 : (.methodLinkNest RX9 11 yX0_init RX10 : Cond) ∈ lw_tbl := (List.mem_append_right _ (List.mem_append_left _ (List.mem_of_getElem? (l := tables_1_1) (i := 228) (by decide +kernel))))
theorem lew_34 : (.methodLinkNest RX9 20 yX2_init RX10 : Cond) ∈ lw_tbl := (List.mem_append_right _ (List.mem_append_left _ (List.mem_of_getElem? (l := tables_1_1) (i := 230) (by decide +kernel))))
theorem lew_35 : (.stringRef RX1 40 "country wind person gate" : Cond) ∈ lw_tbl := (List.mem_append_right _ (List.mem_append_right _ (List.mem_append_left _ (List.mem_of_getElem? (l := tables_1_2) (i := 196) (by decide +kernel)))))
theorem lew_36 : (.stringRef RX6 37 "go" : Cond) ∈ lw_tbl := (List.mem_append_right _ (List.mem_append_right _ (List.mem_append_right _ (List.mem_append_left _ (List.mem_of_getElem? (l := tables_1_3) (i := 90) (by decide +kernel))))))
theorem lew_37 : (.stringRef RX6 59 "if" : Cond) ∈ lw_tbl := (List.mem_append_right _ (List.mem_append_right _ (List.mem_append_right _ (List.mem_append_left _ (List.mem_of_getElem? (l := tables_1_3) (i := 120) (by decide +kernel))))))
theorem lew_38 : (.stringRef RX6 80 "and" : Cond) ∈ lw_tbl := (List.mem_append_right _ (List.mem_append_right _ (List.mem_append_right _ (List.mem_append_left _ (List.mem_of_getElem? (l := tables_1_3) (i := 144) (by decide +kernel))))))
theorem lew_39 : (.stringRef RX6 82 "or" : Cond) ∈ lw_tbl := (List.mem_append_right _ (List.mem_append_right _ (List.mem_append_right _ (List.mem_append_left _ (List.mem_of_getElem? (l := tables_1_3) (i := 145) (by decide +kernel))))))
theorem lew_40 : (.stringRef RX6 89 "not" : Cond) ∈ lw_tbl := (List.mem_append_right _ (List.mem_append_right _ (List.mem_append_right _ (List.mem_append_left _ (List.mem_of_getElem? (l := tables_1_3) (i := 129) (by decide +kernel))))))
theorem lew_41 : (.stringRef RX6 120 "person row column thread heavy way force next air here tangled hour" : Cond) ∈ lw_tbl := (List.mem_append_right _ (List.mem_append_right _ (List.mem_append_right _ (List.mem_append_left _ (List.mem_of_getElem? (l := tables_1_3) (i := 102) (by decide +kernel))))))
theorem lew_42 : (.classLink RL 10 RX11 : Cond) ∈ lw_tbl := (List.mem_append_right _ (List.mem_append_right _ (List.mem_append_right _ (List.mem_append_right _ (List.mem_append_right _ (List.mem_append_left _ (List.mem_of_getElem? (l := tables_1_5) (i := 47) (by decide +kernel))))))))
theorem lew_43 : (.initialized RX11 : Cond) ∈ lw_tbl := (List.mem_append_right _ (List.mem_append_left _ (List.mem_of_getElem? (l := tables_1_1) (i := 12) (by decide +kernel))))
theorem lew_44 : (.methodLink RL 12 yX11_init : Cond) ∈ lw_tbl := (List.mem_append_right _ (List.mem_append_right _ (List.mem_append_right _ (List.mem_append_right _ (List.mem_append_right _ (List.mem_append_left _ (List.mem_of_getElem? (l := tables_1_5) (i := 49) (by decide +kernel))))))))
theorem lew_45 : (.instanceMethod yX11_init : Cond) ∈ lw_tbl := (List.mem_append_right _ (List.mem_append_right _ (List.mem_append_right _ (List.mem_append_right _ (List.mem_append_right _ (List.mem_append_left _ (List.mem_of_getElem? (l := tables_1_5) (i := 50) (by decide +kernel))))))))
theorem lew_46 : (.classLink RL 7 RX10 : Cond) ∈ lw_tbl := (List.mem_append_right _ (List.mem_append_left _ (List.mem_of_getElem? (l := tables_1_1) (i := 21) (by decide +kernel))))
theorem lew_47 : (.initialized RX10 : Cond) ∈ lw_tbl := (List.mem_append_right _ (List.mem_append_left _ (List.mem_of_getElem? (l := tables_1_1) (i := 1) (by decide +kernel))))
theorem lew_48 : (.methodLink RL 9 yX10_init : Cond) ∈ lw_tbl := (List.mem_append_right _ (List.mem_append_left _ (List.mem_of_getElem? (l := tables_1_1) (i := 23) (by decide +kernel))))
theorem lew_49 : (.instanceMethod yX10_init : Cond) ∈ lw_tbl := (List.mem_append_right _ (List.mem_append_left _ (List.mem_of_getElem? (l := tables_1_1) (i := 24) (by decide +kernel))))
def gz_tm : Nat → Term := fun i => match i with | 0 => .string RX1 40 | 1 => .string RX6 37 | 2 => .string RX6 59 | 3 => .string RX6 80 | 4 => .string RX6 82 | 5 => .string RX6 89 | _ => .string RX6 120
set_option maxRecDepth 100000 in
theorem gz_sx : ∀ i : Fin 7, Cond.exactly (gz_tm i.1) "java/lang/String" ∈ flatC (Jvm.Cond.and given_1 narrow_1) := by decide +kernel
set_option maxRecDepth 100000 in
theorem gz_sc : ∀ i : Fin 7, Cond.eq (.field (gz_tm i.1) "java/lang/String" "coder" "B") (.int 0) ∈ flatC (Jvm.Cond.and given_1 narrow_1) := by decide +kernel
set_option maxRecDepth 100000 in
theorem gz_sv : ∀ i : Fin 7, Cond.arrayOf (.field (gz_tm i.1) "java/lang/String" "value" "[B") .byte ∈ flatC (Jvm.Cond.and given_1 narrow_1) := by decide +kernel
set_option maxRecDepth 100000 in
theorem gz_sl : ∀ i : Fin 7, Cond.eq (.length (.field (gz_tm i.1) "java/lang/String" "value" "[B")) (.int (Int32.ofNat (gz_len.getD i.1 0))) ∈ flatC (Jvm.Cond.and given_1 narrow_1) := by decide +kernel
set_option maxRecDepth 100000 in
theorem gz_sb0 : ∀ j : Fin 24, Cond.eq (.elem (.field (gz_tm 0) "java/lang/String" "value" "[B") (.int (Int32.ofNat j.1))) (.int ((gz_byt.getD 0 []).getD j.1 0)) ∈ flatC (Jvm.Cond.and given_1 narrow_1) := by decide +kernel
set_option maxRecDepth 100000 in
theorem gz_sb1 : ∀ j : Fin 2, Cond.eq (.elem (.field (gz_tm 1) "java/lang/String" "value" "[B") (.int (Int32.ofNat j.1))) (.int ((gz_byt.getD 1 []).getD j.1 0)) ∈ flatC (Jvm.Cond.and given_1 narrow_1) := by decide +kernel
set_option maxRecDepth 100000 in
theorem gz_sb2 : ∀ j : Fin 2, Cond.eq (.elem (.field (gz_tm 2) "java/lang/String" "value" "[B") (.int (Int32.ofNat j.1))) (.int ((gz_byt.getD 2 []).getD j.1 0)) ∈ flatC (Jvm.Cond.and given_1 narrow_1) := by decide +kernel
set_option maxRecDepth 100000 in
theorem gz_sb3 : ∀ j : Fin 3, Cond.eq (.elem (.field (gz_tm 3) "java/lang/String" "value" "[B") (.int (Int32.ofNat j.1))) (.int ((gz_byt.getD 3 []).getD j.1 0)) ∈ flatC (Jvm.Cond.and given_1 narrow_1) := by decide +kernel
set_option maxRecDepth 100000 in
theorem gz_sb4 : ∀ j : Fin 2, Cond.eq (.elem (.field (gz_tm 4) "java/lang/String" "value" "[B") (.int (Int32.ofNat j.1))) (.int ((gz_byt.getD 4 []).getD j.1 0)) ∈ flatC (Jvm.Cond.and given_1 narrow_1) := by decide +kernel
set_option maxRecDepth 100000 in
theorem gz_sb5 : ∀ j : Fin 3, Cond.eq (.elem (.field (gz_tm 5) "java/lang/String" "value" "[B") (.int (Int32.ofNat j.1))) (.int ((gz_byt.getD 5 []).getD j.1 0)) ∈ flatC (Jvm.Cond.and given_1 narrow_1) := by decide +kernel
set_option maxRecDepth 100000 in
theorem gz_sb6 : ∀ j : Fin 67, Cond.eq (.elem (.field (gz_tm 6) "java/lang/String" "value" "[B") (.int (Int32.ofNat j.1))) (.int ((gz_byt.getD 6 []).getD j.1 0)) ∈ flatC (Jvm.Cond.and given_1 narrow_1) := by decide +kernel
set_option maxRecDepth 100000 in
theorem gz_sn : ∀ i j : Fin 7, i ≠ j → Cond.not (Cond.eq (gz_tm i.1) (gz_tm j.1)) ∈ flatC (Jvm.Cond.and given_1 narrow_1) ∨ Cond.not (Cond.eq (gz_tm j.1) (gz_tm i.1)) ∈ flatC (Jvm.Cond.and given_1 narrow_1) := by decide +kernel
set_option maxRecDepth 100000 in
set_option maxHeartbeats 8000000 in
/-- what the tables give at the law's entry, beside the worlds -/
theorem gz_env2 {s : State} {b : Nat} {A : Nat → Prop} (hAe : A = fun q => s.heap.size ≤ q) (hts : ∀ w ∈ lw_tbl, w.before #[Value.ref b] s = true) (hgv : (Jvm.Cond.and given_1 narrow_1).before #[Value.ref b] s = true) : ∃ (G : va_G) (k : Nat → ClassId) (sa : Nat → Nat), gE G k sa s ∧ gZ sa A s s.heap := by
  obtain ⟨c0, i0, hc0⟩ := u_known (C := RX0) (T := TX0) (N := 6) (n := 6) hts inq_0 (hts (.instantiable RX0 6) lew_0)
  obtain ⟨c1, i1, hc1⟩ := u_known (C := RX1) (T := TX1) (N := 1) (n := 1) hts inq_1 (hts (.instantiable RX1 1) lew_1)
  obtain ⟨c2, i2, hc2⟩ := u_known (C := RX2) (T := TX2) (N := 7) (n := 7) hts inq_2 (hts (.instantiable RX2 7) lew_2)
  obtain ⟨c3, i3, hc3⟩ := u_known (C := RX3) (T := TX3) (N := 3) (n := 3) hts inq_3 (hts (.instantiable RX3 3) lew_3)
  obtain ⟨c4, i4, hc4⟩ := u_known (C := RX4) (T := TX4) (N := 10) (n := 10) hts inq_4 (hts (.instantiable RX4 10) lew_4)
  obtain ⟨c5, i5, hc5⟩ := u_known (C := RX5) (T := TX5) (N := 6) (n := 6) hts inq_5 (hts (.instantiable RX5 6) lew_5)
  obtain ⟨c6, i6, hc6⟩ := u_known (C := RX6) (T := TX6) (N := 3) (n := 3) hts inq_6 (hts (.instantiable RX6 3) lew_6)
  obtain ⟨c7, i7, hc7⟩ := u_known (C := RX7) (T := TX7) (N := 2) (n := 2) hts inq_7 (hts (.instantiable RX7 2) lew_7)
  obtain ⟨c8, i8, hc8⟩ := u_known (C := RX8) (T := TX8) (N := 6) (n := 6) hts inq_8 (hts (.instantiable RX8 6) lew_8)
  obtain ⟨c9, i9, hc9⟩ := u_known (C := RX9) (T := TX9) (N := 9) (n := 9) hts inq_9 (hts (.instantiable RX9 9) lew_9)
  obtain ⟨c10, i10, hc10⟩ := u_known (C := RX10) (T := TX10) (N := 16) (n := 16) hts inq_10 (hts (.instantiable RX10 16) lew_10)
  obtain ⟨c11, i11, hc11⟩ := u_known (C := RX11) (T := TX11) (N := 44) (n := 44) hts inq_11 (hts (.instantiable RX11 44) lew_11)
  obtain ⟨a0, hr0, hs0⟩ := gz_arr (ty := .int) (hts (.arrayClass .int) lew_12) rfl
  obtain ⟨a1, hr1, hs1⟩ := gz_arr (ty := .long) (hts (.arrayClass .long) lew_13) rfl
  obtain ⟨a2, hr2, hs2⟩ := gz_arr (ty := .boolean) (hts (.arrayClass .boolean) lew_14) rfl
  obtain ⟨a6, hr6, hs6⟩ := gz_arr (ty := .byte) (hts (.arrayClass .byte) lew_15) rfl
  obtain ⟨a3, hr3, hs3⟩ := gz_arrO (C := "GossamerGate$Rule") (hts (.arrayOver (.object "GossamerGate$Rule")) lew_16)
  obtain ⟨a4, hr4, hs4⟩ := gz_arrO (C := "GossamerGate$World") (hts (.arrayOver (.object "GossamerGate$World")) lew_17)
  obtain ⟨a5, hr5, hs5⟩ := gz_arrO (C := "GossamerGate$Day") (hts (.arrayOver (.object "GossamerGate$Day")) lew_18)
  have hs := flat_of_before _ hgv
  have hAn : ∀ a : Nat, a < s.heap.size → ¬ A a := by rw [hAe]; exact fun a h q => absurd h (Nat.not_lt.mpr q)
  have hb : ∀ i : Nat, i < 7 → ∀ j : Nat, j < gz_len.getD i 0 → (Cond.eq (.elem (.field (gz_tm i) "java/lang/String" "value" "[B") (.int (Int32.ofNat j))) (.int ((gz_byt.getD i []).getD j 0))).before #[Value.ref b] s = true := fun i hi => match i, hi with
    | 0, _ => fun j hj => hs _ (gz_sb0 ⟨j, hj⟩)
    | 1, _ => fun j hj => hs _ (gz_sb1 ⟨j, hj⟩)
    | 2, _ => fun j hj => hs _ (gz_sb2 ⟨j, hj⟩)
    | 3, _ => fun j hj => hs _ (gz_sb3 ⟨j, hj⟩)
    | 4, _ => fun j hj => hs _ (gz_sb4 ⟨j, hj⟩)
    | 5, _ => fun j hj => hs _ (gz_sb5 ⟨j, hj⟩)
    | 6, _ => fun j hj => hs _ (gz_sb6 ⟨j, hj⟩)
    | n + 7, h => absurd h (by omega)
  have hle : ∀ i : Nat, i < 7 → gz_len.getD i 0 < 2 ^ 31 := fun i hi => match i, hi with
    | 0, _ => (by decide)
    | 1, _ => (by decide)
    | 2, _ => (by decide)
    | 3, _ => (by decide)
    | 4, _ => (by decide)
    | 5, _ => (by decide)
    | 6, _ => (by decide)
    | n + 7, h => absurd h (by omega)
  obtain ⟨adK, adV, hSt, hev⟩ := vk_Sof (args := #[Value.ref b]) (s := s) (N := 7) (tm := gz_tm) (len := gz_len) (byt := gz_byt) (A := A) hle (fun i hi => hs _ (gz_sx ⟨i, hi⟩)) (fun i hi => hs _ (gz_sc ⟨i, hi⟩)) (fun i hi => hs _ (gz_sv ⟨i, hi⟩)) (fun i hi => hs _ (gz_sl ⟨i, hi⟩)) hb (fun i j hi hj hne => (gz_sn ⟨i, hi⟩ ⟨j, hj⟩ (fun q => hne (Fin.mk.inj q))).elim (fun q => Or.inl (hs _ q)) (fun q => Or.inr (hs _ q))) hAn
  have hz1 := va_Zof (args := #[Value.ref b]) (s := s) (A := A) (v := .int 1) (hts (.laysStatic "java/lang/String" "COMPACT_STRINGS" "Z") lew_19) (hts (.initialized "java/lang/String") lew_20) (va_eqt (hs _ (by decide +kernel : Cond.eq (.static "java/lang/String" "COMPACT_STRINGS" "Z") (.int 1) ∈ flatC (Jvm.Cond.and given_1 narrow_1)))) hAn
  have hz2 := va_Zqof (args := #[Value.ref b]) (s := s) (A := A) (hts (.laysStatic "jdk/internal/util/Preconditions" "SIOOBE_FORMATTER" "Ljava/util/function/BiFunction;") lew_21) (hts (.initialized "jdk/internal/util/Preconditions") lew_22) (hs _ (by decide +kernel : Cond.isRef (.static "jdk/internal/util/Preconditions" "SIOOBE_FORMATTER" "Ljava/util/function/BiFunction;") ∈ flatC (Jvm.Cond.and given_1 narrow_1))) hAn
  refine ⟨(fun i => match i with | 0 => c0 | 1 => c1 | 2 => c2 | 3 => c3 | 4 => c4 | 5 => c5 | 6 => c6 | 7 => c7 | 8 => c8 | 9 => c9 | 10 => c10 | _ => c11, fun i => match i with | 0 => i0 | 1 => i1 | 2 => i2 | 3 => i3 | 4 => i4 | 5 => i5 | 6 => i6 | 7 => i7 | 8 => i8 | 9 => i9 | 10 => i10 | _ => i11), (fun i => match i with | 0 => a0 | 1 => a1 | 2 => a2 | 3 => a3 | 4 => a4 | 5 => a5 | _ => a6), (fun i => cond (Nat.blt i 100) (adK i) (adV (i - 100))), ⟨⟨?_, ?_⟩, ?_, ?_, ?_⟩, ?_, hz1, hz2⟩
  · intro n q hq
    match n, hq with
    | 0, hq => cases hq; exact hc0
    | 1, hq => cases hq; exact hc1
    | 2, hq => cases hq; exact hc2
    | 3, hq => cases hq; exact hc3
    | 4, hq => cases hq; exact hc4
    | 5, hq => cases hq; exact hc5
    | 6, hq => cases hq; exact hc6
    | 7, hq => cases hq; exact hc7
    | 8, hq => cases hq; exact hc8
    | 9, hq => cases hq; exact hc9
    | 10, hq => cases hq; exact hc10
    | 11, hq => cases hq; exact hc11
    | n + 12, hq => simp [vwCl] at hq
  · intro n q hq
    match n, hq with
    | 0, hq => cases hq; exact ⟨hr0, hs0⟩
    | 1, hq => cases hq; exact ⟨hr1, hs1⟩
    | 2, hq => cases hq; exact ⟨hr2, hs2⟩
    | 3, hq => cases hq; exact ⟨hr3, hs3⟩
    | 4, hq => cases hq; exact ⟨hr4, hs4⟩
    | 5, hq => cases hq; exact ⟨hr5, hs5⟩
    | 6, hq => cases hq; exact ⟨hr6, hs6⟩
    | n + 7, hq => simp [gT] at hq
  · exact List.forall_mem_cons.mpr ⟨va_Nw.of rfl (hts _ lew_23), List.forall_mem_cons.mpr ⟨va_Nw.of rfl (hts _ lew_24), List.forall_mem_cons.mpr ⟨va_Nw.of rfl (hts _ lew_25), List.forall_mem_cons.mpr ⟨va_Nw.of rfl (hts _ lew_26), List.forall_mem_cons.mpr ⟨va_Nw.of rfl (hts _ lew_27), List.forall_mem_cons.mpr ⟨va_Nw.of rfl (hts _ lew_28), List.forall_mem_cons.mpr ⟨va_Nw.of rfl (hts _ lew_29), List.forall_mem_cons.mpr ⟨va_Nw.of rfl (hts _ lew_30), List.forall_mem_cons.mpr ⟨va_Nw.of rfl (hts _ lew_31), List.forall_mem_cons.mpr ⟨va_Nw.of rfl (hts _ lew_32), List.forall_mem_cons.mpr ⟨va_Nw.of rfl (hts _ lew_33), List.forall_mem_cons.mpr ⟨va_Nw.of rfl (hts _ lew_34), fun _ h => absurd h List.not_mem_nil⟩⟩⟩⟩⟩⟩⟩⟩⟩⟩⟩⟩
  · exact List.forall_mem_cons.mpr ⟨va_AO.of (hts _ lew_16), List.forall_mem_cons.mpr ⟨va_AO.of (hts _ lew_17), List.forall_mem_cons.mpr ⟨va_AO.of (hts _ lew_18), fun _ h => absurd h List.not_mem_nil⟩⟩⟩
  · intro n q hq
    match n, hq with
    | 0, hq => cases hq; exact vk_R.of (A := #[Value.ref b]) (hts _ lew_35) (hev 0 (by decide))
    | 1, hq => cases hq; exact vk_R.of (A := #[Value.ref b]) (hts _ lew_36) (hev 1 (by decide))
    | 2, hq => cases hq; exact vk_R.of (A := #[Value.ref b]) (hts _ lew_37) (hev 2 (by decide))
    | 3, hq => cases hq; exact vk_R.of (A := #[Value.ref b]) (hts _ lew_38) (hev 3 (by decide))
    | 4, hq => cases hq; exact vk_R.of (A := #[Value.ref b]) (hts _ lew_39) (hev 4 (by decide))
    | 5, hq => cases hq; exact vk_R.of (A := #[Value.ref b]) (hts _ lew_40) (hev 5 (by decide))
    | 6, hq => cases hq; exact vk_R.of (A := #[Value.ref b]) (hts _ lew_41) (hev 6 (by decide))
    | n + 7, hq => simp [gz_S] at hq
  · refine ⟨fun i hi => ?_, fun i j hi hj q => ?_⟩
    · match i, hi with
      | 0, _ => exact hSt.1 0 (by decide)
      | 1, _ => exact hSt.1 1 (by decide)
      | 2, _ => exact hSt.1 2 (by decide)
      | 3, _ => exact hSt.1 3 (by decide)
      | 4, _ => exact hSt.1 4 (by decide)
      | 5, _ => exact hSt.1 5 (by decide)
      | 6, _ => exact hSt.1 6 (by decide)
      | n + 7, h => exact absurd h (by omega)
    · have e : ∀ i : Nat, i < 7 → cond (Nat.blt i 100) (adK i) (adV (i - 100)) = adK i := fun i hi => by rw [show Nat.blt i 100 = true from Nat.blt_eq.mpr (by omega)]; rfl
      have q1 : cond (Nat.blt i 100) (adK i) (adV (i - 100)) = cond (Nat.blt j 100) (adK j) (adV (j - 100)) := q
      rw [e i hi, e j hj] at q1
      exact hSt.2 i j hi hj q1
