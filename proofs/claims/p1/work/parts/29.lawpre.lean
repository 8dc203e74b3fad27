theorem gz_arr {s : State} {b : Nat} {ty : FieldType} (h : (Cond.arrayClass ty).before #[Value.ref b] s = true) (hp : (match ty with | .object _ => false | _ => true) = true) : ∃ cA : ClassId, ArrOfT s cA ty ∧ va_RA s cA ty := by
  obtain ⟨cA, kA, comp, h1, h2, h3⟩ := Cond.arrayClass_spec h
  refine ⟨cA, fun n z => ⟨fun k h => (by cases h), kA, h2, comp, h3⟩, ?_⟩
  cases ty with
  | object C => simp at hp
  | _ => exact h1
theorem gz_arrO {s : State} {b : Nat} {C : String} (h : (Cond.arrayOver (.object C)).before #[Value.ref b] s = true) : ∃ cA : ClassId, ArrOfT s cA (.object C) ∧ va_RA s cA (.object C) := by
  obtain ⟨comp, cA, kA, hcomp, -, hkA, hkind, hname⟩ := Cond.arrayOver_spec h
  exact ⟨cA, fun N z => ⟨(fun k h => by cases h), kA, hkA, comp, hkind⟩, kA, comp, hkA, hkind, hcomp, hname⟩
set_option maxRecDepth 100000 in
set_option maxHeartbeats 4000000 in
/-- what the tables give at the law's entry, beside the worlds -/
theorem gz_env {s : State} {b : Nat} (hts : ∀ w ∈ lw_tbl, w.before #[Value.ref b] s = true) (hgv : (Jvm.Cond.and given_1 narrow_1).before #[Value.ref b] s = true) : ∃ (G : va_G) (k : Nat → ClassId) (sa : Nat → Nat), gE G k sa s := by
  obtain ⟨c0, i0, hc0⟩ := u_known (C := RX0) (T := TX0) (N := 6) (n := 6) hts inq_0 (hts (.instantiable RX0 6) ltw_66)
  obtain ⟨c1, i1, hc1⟩ := u_known (C := RX1) (T := TX1) (N := 1) (n := 1) hts inq_1 (hts (.instantiable RX1 1) ltw_306)
  obtain ⟨c2, i2, hc2⟩ := u_known (C := RX2) (T := TX2) (N := 7) (n := 7) hts inq_2 (hts (.instantiable RX2 7) ltw_59)
  obtain ⟨c3, i3, hc3⟩ := u_known (C := RX3) (T := TX3) (N := 3) (n := 3) hts inq_3 (hts (.instantiable RX3 3) ltw_319)
  obtain ⟨c4, i4, hc4⟩ := u_known (C := RX4) (T := TX4) (N := 10) (n := 10) hts inq_4 (hts (.instantiable RX4 10) ltw_323)
  obtain ⟨c5, i5, hc5⟩ := u_known (C := RX5) (T := TX5) (N := 6) (n := 6) hts inq_5 (hts (.instantiable RX5 6) ltw_43)
  obtain ⟨c6, i6, hc6⟩ := u_known (C := RX6) (T := TX6) (N := 3) (n := 3) hts inq_6 (hts (.instantiable RX6 3) ltw_310)
  obtain ⟨c7, i7, hc7⟩ := u_known (C := RX7) (T := TX7) (N := 2) (n := 2) hts inq_7 (hts (.instantiable RX7 2) ltw_303)
  obtain ⟨c8, i8, hc8⟩ := u_known (C := RX8) (T := TX8) (N := 6) (n := 6) hts inq_8 (hts (.instantiable RX8 6) ltw_26)
  obtain ⟨c9, i9, hc9⟩ := u_known (C := RX9) (T := TX9) (N := 9) (n := 9) hts inq_9 (hts (.instantiable RX9 9) ltw_316)
  obtain ⟨c10, i10, hc10⟩ := u_known (C := RX10) (T := TX10) (N := 16) (n := 16) hts inq_10 (hts (.instantiable RX10 16) ltw_488)
  obtain ⟨c11, i11, hc11⟩ := u_known (C := RX11) (T := TX11) (N := 44) (n := 44) hts inq_11 (hts (.instantiable RX11 44) ltw_489)
  obtain ⟨a0, hr0, hs0⟩ := gz_arr (ty := .int) (hts (.arrayClass .int) ltw_6) rfl
  obtain ⟨a1, hr1, hs1⟩ := gz_arr (ty := .long) (hts (.arrayClass .long) ltw_36) rfl
  obtain ⟨a2, hr2, hs2⟩ := gz_arr (ty := .boolean) (hts (.arrayClass .boolean) ltw_357) rfl
  obtain ⟨a6, hr6, hs6⟩ := gz_arr (ty := .byte) (hts (.arrayClass .byte) ltw_336) rfl
  obtain ⟨a3, hr3, hs3⟩ := gz_arrO (C := "GossamerGate$Rule") (hts (.arrayOver (.object "GossamerGate$Rule")) ltw_490)
  obtain ⟨a4, hr4, hs4⟩ := gz_arrO (C := "GossamerGate$World") (hts (.arrayOver (.object "GossamerGate$World")) ltw_491)
  obtain ⟨a5, hr5, hs5⟩ := gz_arrO (C := "GossamerGate$Day") (hts (.arrayOver (.object "GossamerGate$Day")) ltw_492)
  have hs := flat_of_before _ hgv
  obtain ⟨t0, -, -, -, q0, -⟩ := Cond.exactly_spec (args := #[Value.ref b]) (first := s) (o := none) (s := s) (idx := []) (t := .string RX1 40) (cls := "java/lang/String") (hs _ (by decide +kernel))
  obtain ⟨t1, -, -, -, q1, -⟩ := Cond.exactly_spec (args := #[Value.ref b]) (first := s) (o := none) (s := s) (idx := []) (t := .string RX6 37) (cls := "java/lang/String") (hs _ (by decide +kernel))
  obtain ⟨t2, -, -, -, q2, -⟩ := Cond.exactly_spec (args := #[Value.ref b]) (first := s) (o := none) (s := s) (idx := []) (t := .string RX6 59) (cls := "java/lang/String") (hs _ (by decide +kernel))
  obtain ⟨t3, -, -, -, q3, -⟩ := Cond.exactly_spec (args := #[Value.ref b]) (first := s) (o := none) (s := s) (idx := []) (t := .string RX6 80) (cls := "java/lang/String") (hs _ (by decide +kernel))
  obtain ⟨t4, -, -, -, q4, -⟩ := Cond.exactly_spec (args := #[Value.ref b]) (first := s) (o := none) (s := s) (idx := []) (t := .string RX6 82) (cls := "java/lang/String") (hs _ (by decide +kernel))
  obtain ⟨t5, -, -, -, q5, -⟩ := Cond.exactly_spec (args := #[Value.ref b]) (first := s) (o := none) (s := s) (idx := []) (t := .string RX6 89) (cls := "java/lang/String") (hs _ (by decide +kernel))
  obtain ⟨t6, -, -, -, q6, -⟩ := Cond.exactly_spec (args := #[Value.ref b]) (first := s) (o := none) (s := s) (idx := []) (t := .string RX6 120) (cls := "java/lang/String") (hs _ (by decide +kernel))
  refine ⟨(fun i => match i with | 0 => c0 | 1 => c1 | 2 => c2 | 3 => c3 | 4 => c4 | 5 => c5 | 6 => c6 | 7 => c7 | 8 => c8 | 9 => c9 | 10 => c10 | _ => c11, fun i => match i with | 0 => i0 | 1 => i1 | 2 => i2 | 3 => i3 | 4 => i4 | 5 => i5 | 6 => i6 | 7 => i7 | 8 => i8 | 9 => i9 | 10 => i10 | _ => i11), (fun i => match i with | 0 => a0 | 1 => a1 | 2 => a2 | 3 => a3 | 4 => a4 | 5 => a5 | _ => a6), (fun i => match i with | 0 => t0 | 1 => t1 | 2 => t2 | 3 => t3 | 4 => t4 | 5 => t5 | _ => t6), ⟨?_, ?_⟩, ?_, ?_, ?_⟩
  · intro n q hq
    match n, hq with
    | 0, hq => cases hq; exact hc0
    | 1, hq => cases hq; exact hc1
    | 2, hq => cases hq; exact hc2
    | 3, hq => cases hq; exact hc3
    | 4, hq => cases hq; exact hc4
    | 5, hq => cases hq; exact hc5
    | 6, hq => cases hq; exact hc6
    | 7, hq => cases hq; exact hc7
    | 8, hq => cases hq; exact hc8
    | 9, hq => cases hq; exact hc9
    | 10, hq => cases hq; exact hc10
    | 11, hq => cases hq; exact hc11
    | n + 12, hq => simp [vwCl] at hq
  · intro n q hq
    match n, hq with
    | 0, hq => cases hq; exact ⟨hr0, hs0⟩
    | 1, hq => cases hq; exact ⟨hr1, hs1⟩
    | 2, hq => cases hq; exact ⟨hr2, hs2⟩
    | 3, hq => cases hq; exact ⟨hr3, hs3⟩
    | 4, hq => cases hq; exact ⟨hr4, hs4⟩
    | 5, hq => cases hq; exact ⟨hr5, hs5⟩
    | 6, hq => cases hq; exact ⟨hr6, hs6⟩
    | n + 7, hq => simp [gT] at hq
  · exact List.forall_mem_cons.mpr ⟨va_Nw.of rfl (hts _ ltw_493), List.forall_mem_cons.mpr ⟨va_Nw.of rfl (hts _ ltw_494), List.forall_mem_cons.mpr ⟨va_Nw.of rfl (hts _ ltw_495), List.forall_mem_cons.mpr ⟨va_Nw.of rfl (hts _ ltw_496), List.forall_mem_cons.mpr ⟨va_Nw.of rfl (hts _ ltw_497), List.forall_mem_cons.mpr ⟨va_Nw.of rfl (hts _ ltw_498), List.forall_mem_cons.mpr ⟨va_Nw.of rfl (hts _ ltw_499), List.forall_mem_cons.mpr ⟨va_Nw.of rfl (hts _ ltw_500), List.forall_mem_cons.mpr ⟨va_Nw.of rfl (hts _ ltw_501), List.forall_mem_cons.mpr ⟨va_Nw.of rfl (hts _ ltw_502), List.forall_mem_cons.mpr ⟨va_Nw.of rfl (hts _ ltw_503), List.forall_mem_cons.mpr ⟨va_Nw.of rfl (hts _ ltw_504), fun _ h => absurd h List.not_mem_nil⟩⟩⟩⟩⟩⟩⟩⟩⟩⟩⟩⟩
  · exact List.forall_mem_cons.mpr ⟨va_AO.of (hts _ ltw_490), List.forall_mem_cons.mpr ⟨va_AO.of (hts _ ltw_491), List.forall_mem_cons.mpr ⟨va_AO.of (hts _ ltw_492), fun _ h => absurd h List.not_mem_nil⟩⟩⟩
  · intro n q hq
    match n, hq with
    | 0, hq => cases hq; exact vk_R.of (A := #[Value.ref b]) (hts _ ltw_505) q0
    | 1, hq => cases hq; exact vk_R.of (A := #[Value.ref b]) (hts _ ltw_506) q1
    | 2, hq => cases hq; exact vk_R.of (A := #[Value.ref b]) (hts _ ltw_507) q2
    | 3, hq => cases hq; exact vk_R.of (A := #[Value.ref b]) (hts _ ltw_508) q3
    | 4, hq => cases hq; exact vk_R.of (A := #[Value.ref b]) (hts _ ltw_509) q4
    | 5, hq => cases hq; exact vk_R.of (A := #[Value.ref b]) (hts _ ltw_510) q5
    | 6, hq => cases hq; exact vk_R.of (A := #[Value.ref b]) (hts _ ltw_511) q6
    | n + 7, hq => simp [gz_S] at hq
theorem gz_ag_end {a r1 r2 : Int32} (h1 : (r1 = (-1) ∧ (a < 0 ∨ 0 < a)) ∨ (r1 = a ∧ (¬ (a < 0 ∨ 0 < a)))) (h2 : (r2 = (-1) ∧ (¬ a = 0)) ∨ (r2 = a ∧ (a = 0))) : r1 = r2 := by
  have hzm1 : ((-1) : Int32).toInt = -1 := by decide
  have hz0 : (0 : Int32).toInt = 0 := by decide
  have hz3 : (3 : Int32).toInt = 3 := by decide
  have hz4 : (4 : Int32).toInt = 4 := by decide
  have hl0 : (0 : Int64).toInt = 0 := by decide
  have hl3 : (3 : Int64).toInt = 3 := by decide
  rcases h1 with ⟨e1, h⟩ | ⟨e1, h⟩ <;> rcases h2 with ⟨e2, g⟩ | ⟨e2, g⟩ <;> rw [e1, e2] <;> (first | rfl | (exfalso; simp only [gz_lt, gz_le, gz_eq, Int64.le_iff_toInt_le, Int32.toInt_toInt64] at h g; omega))
theorem gz_ag_force {a r1 r2 : Int32} (h1 : (r1 = (-2) ∧ (a < (-1) ∨ (-1) < a)) ∨ (r1 = (-1) ∧ (¬ (a < (-1) ∨ (-1) < a)))) (h2 : (r2 = (-1) ∧ (a = (-1))) ∨ (r2 = (-2) ∧ (¬ a = (-1)))) : r1 = r2 := by
  have hzm1 : ((-1) : Int32).toInt = -1 := by decide
  have hz0 : (0 : Int32).toInt = 0 := by decide
  have hz3 : (3 : Int32).toInt = 3 := by decide
  have hz4 : (4 : Int32).toInt = 4 := by decide
  have hl0 : (0 : Int64).toInt = 0 := by decide
  have hl3 : (3 : Int64).toInt = 3 := by decide
  rcases h1 with ⟨e1, h⟩ | ⟨e1, h⟩ <;> rcases h2 with ⟨e2, g⟩ | ⟨e2, g⟩ <;> rw [e1, e2] <;> (first | rfl | (exfalso; simp only [gz_lt, gz_le, gz_eq, Int64.le_iff_toInt_le, Int32.toInt_toInt64] at h g; omega))
theorem gz_ag_seed {a r1 r2 : Int32} (h1 : (r1 = 0 ∧ (0 ≤ a)) ∨ (r1 = (-1) ∧ (¬ 0 ≤ a))) (h2 : (r2 = 0 ∧ (0 ≤ a)) ∨ (r2 = (-1) ∧ (¬ 0 ≤ a))) : r1 = r2 := by
  have hzm1 : ((-1) : Int32).toInt = -1 := by decide
  have hz0 : (0 : Int32).toInt = 0 := by decide
  have hz3 : (3 : Int32).toInt = 3 := by decide
  have hz4 : (4 : Int32).toInt = 4 := by decide
  have hl0 : (0 : Int64).toInt = 0 := by decide
  have hl3 : (3 : Int64).toInt = 3 := by decide
  rcases h1 with ⟨e1, h⟩ | ⟨e1, h⟩ <;> rcases h2 with ⟨e2, g⟩ | ⟨e2, g⟩ <;> rw [e1, e2] <;> (first | rfl | (exfalso; simp only [gz_lt, gz_le, gz_eq, Int64.le_iff_toInt_le, Int32.toInt_toInt64] at h g; omega))
theorem gz_ag_note {a r1 r2 : Int32} (h1 : (r1 = 0 ∧ (a = (-1))) ∨ (r1 = (-2) ∧ (¬ a = (-1)))) (h2 : (r2 = 0 ∧ (a = (-1))) ∨ (r2 = (-2) ∧ (¬ a = (-1)))) : r1 = r2 := by
  have hzm1 : ((-1) : Int32).toInt = -1 := by decide
  have hz0 : (0 : Int32).toInt = 0 := by decide
  have hz3 : (3 : Int32).toInt = 3 := by decide
  have hz4 : (4 : Int32).toInt = 4 := by decide
  have hl0 : (0 : Int64).toInt = 0 := by decide
  have hl3 : (3 : Int64).toInt = 3 := by decide
  rcases h1 with ⟨e1, h⟩ | ⟨e1, h⟩ <;> rcases h2 with ⟨e2, g⟩ | ⟨e2, g⟩ <;> rw [e1, e2] <;> (first | rfl | (exfalso; simp only [gz_lt, gz_le, gz_eq, Int64.le_iff_toInt_le, Int32.toInt_toInt64] at h g; omega))
theorem gz_ag_count {a r1 r2 : Int32} (h1 : (r1 = 0 ∧ (0 ≤ a.toInt ∧ a.toInt ≤ 14 ∧ ¬ a = 4)) ∨ (r1 = (-1) ∧ (a = 4 ∨ a.toInt < 0 ∨ 14 < a.toInt))) (h2 : (r2 = 0 ∧ (0 ≤ a.toInt ∧ a.toInt ≤ 14 ∧ ¬ a = 4)) ∨ (r2 = (-1) ∧ (a = 4 ∨ a.toInt < 0 ∨ 14 < a.toInt))) : r1 = r2 := by
  have hzm1 : ((-1) : Int32).toInt = -1 := by decide
  have hz0 : (0 : Int32).toInt = 0 := by decide
  have hz3 : (3 : Int32).toInt = 3 := by decide
  have hz4 : (4 : Int32).toInt = 4 := by decide
  have hl0 : (0 : Int64).toInt = 0 := by decide
  have hl3 : (3 : Int64).toInt = 3 := by decide
  rcases h1 with ⟨e1, h⟩ | ⟨e1, h⟩ <;> rcases h2 with ⟨e2, g⟩ | ⟨e2, g⟩ <;> rw [e1, e2] <;> (first | rfl | (exfalso; simp only [gz_lt, gz_le, gz_eq, Int64.le_iff_toInt_le, Int32.toInt_toInt64] at h g; omega))
theorem gz_ag_image {a r1 r2 : Int32} (h1 : (r1 = (-1) ∧ (a < 0 ∨ 3 < a)) ∨ (r1 = 0 ∧ (¬ (a < 0 ∨ 3 < a)))) (h2 : (r2 = 0 ∧ ((0 : Int64) ≤ a.toInt64 ∧ a.toInt64 ≤ 3)) ∨ (r2 = (-1) ∧ (¬ ((0 : Int64) ≤ a.toInt64 ∧ a.toInt64 ≤ 3)))) : r1 = r2 := by
  have hzm1 : ((-1) : Int32).toInt = -1 := by decide
  have hz0 : (0 : Int32).toInt = 0 := by decide
  have hz3 : (3 : Int32).toInt = 3 := by decide
  have hz4 : (4 : Int32).toInt = 4 := by decide
  have hl0 : (0 : Int64).toInt = 0 := by decide
  have hl3 : (3 : Int64).toInt = 3 := by decide
  rcases h1 with ⟨e1, h⟩ | ⟨e1, h⟩ <;> rcases h2 with ⟨e2, g⟩ | ⟨e2, g⟩ <;> rw [e1, e2] <;> (first | rfl | (exfalso; simp only [gz_lt, gz_le, gz_eq, Int64.le_iff_toInt_le, Int32.toInt_toInt64] at h g; omega))
